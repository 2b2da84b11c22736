/** The bounds of what was seen, of dogs, years, and of what is kept (the document's section 4). */
public final class SeenEdges {
    private static final int NONE = Checks.NONE, NO = Checks.NO, BAD = Checks.BAD, FULL = Checks.FULL;
    private static final String ONE = Checks.ONE;
    private static final Checks CHECKS = new Checks("SeenEdges");

    private static void due(String what, int got, int want) {
        CHECKS.due(what, got, want);
    }

    public static void main(String[] args) {
        seenEight();
        seenNights();
        forgotten();
        lawOfNothing();
        lawOfEachNight();
        lawOfEachOne();
        lawAlone();
        lawOfNone();
        didOfAll();
        didWhateverTheNight();
        dogsOfNoNight();
        dogsByNoneOrAll();
        dogsInLowestTerms();
        dogsWhateverIsTold();
        dogsAsThingsStand();
        yearBounds();
        yearOfOneNight();
        yearWithoutSuppers();
        yearsFarOut();
        yearTillAndHams();
        keptTwo();
        keptAsItStands();
        backStays();
        countEach();
        CHECKS.end();
    }

    /** "SEEN (8 at most)": of all the STAFF together. */
    private static void seenEight() {
        SleepersShop x = Checks.shop(Checks.times(ONE, 6));
        for (int i = 1; i <= 8; i++) {
            due("seen " + i, x.see(i % 6, i * 10, i % 2 == 0), i);
            due("count(8)", x.count(8), i);
        }
        for (int s = 0; s < 6; s++) {
            due("the ninth, of " + s, x.see(s, 0, true), FULL);
        }
        due("the ninth, of none", x.see(6, 0, true), BAD);
        due("the ninth, of night 100", x.see(0, 100, true), BAD);
        due("count(8)", x.count(8), 8);
        due("forget()", x.forget(), 8);
        due("then there is room", x.see(5, 99, false), 1);
    }

    /** "on night t (0 to 99)", be it gone by or not. */
    private static void seenNights() {
        SleepersShop x = Checks.shop(ONE);
        int seen = 0;
        for (int t = -5; t <= 105; t++) {
            boolean within = t >= 0 && t <= 99;
            seen = seen == 8 ? 0 : seen;
            if (seen == 0) {
                x.forget();
            }
            seen += within ? 1 : 0;
            due("see(0, " + t + ", true)", x.see(0, t, true), within ? seen : BAD);
        }
        due("see(0, MIN, true)", x.see(0, Checks.MIN, true), BAD);
        due("see(0, MAX, true)", x.see(0, Checks.MAX, true), BAD);
        due("see(MIN, 0, true)", x.see(Checks.MIN, 0, true), BAD);
        due("see(MAX, 0, true)", x.see(Checks.MAX, 0, true), BAD);
        due("see(1, 0, false)", x.see(1, 0, false), BAD);
    }

    private static void forgotten() {
        SleepersShop x = Checks.shop(ONE);
        due("forget() of nothing", x.forget(), 0);
        for (int many = 1; many <= 8; many++) {
            for (int i = 0; i < many; i++) {
                x.see(0, 3, false);
            }
            due("laws ahead of forget()", x.law(0, 0), 45);
            due("forget() of " + many, x.forget(), many);
            due("forget() once more", x.forget(), 0);
            due("laws behind forget()", x.law(0, 0), 55);
        }
    }

    /** "of all E (1 to 10), O (0 to E less 1)": 1 + 2 + .. + 10 of them, the first is E 1, O 0. */
    private static void lawOfNothing() {
        SleepersShop x = Checks.shop(Checks.times(ONE, 6));
        for (int s = 0; s < 6; s++) {
            due("law(" + s + ", 0)", x.law(s, 0), 55);
            due("law(" + s + ", 1)", x.law(s, 1), 10);
        }
        due("law(6, 0)", x.law(6, 0), BAD);
        due("law(-1, 1)", x.law(-1, 1), BAD);
        due("law(0, 2)", x.law(0, 2), BAD);
        due("law(0, -1)", x.law(0, -1), BAD);
    }

    /** One night on which she WALKED leaves one O for each E; one on which she did not takes that one away. */
    private static void lawOfEachNight() {
        SleepersShop x = Checks.shop(ONE + ONE);
        for (int t = 0; t <= 99; t++) {
            x.see(0, t, true);
            x.see(1, t, false);
            due("laws of one that WALKED on " + t, x.law(0, 0), 10);
            due("the first", x.law(0, 1), 10);
            due("laws of one that did not on " + t, x.law(1, 0), 45);
            due("the first", x.law(1, 1), t % 2 == 0 ? 21 : 20);
            x.forget();
            if (t == 50) {
                x = Checks.shop(ONE + ONE);
            }
        }
    }

    /** Of each E and O: told by six nights on which she WALKED, or did not. */
    private static void lawOfEachOne() {
        for (int e = 1; e <= 10; e++) {
            for (int o = 0; o < e; o++) {
                SleepersShop x = Checks.shop(ONE);
                x.see(0, o, true);
                for (int i = 1; i < Math.min(e, 8); i++) {
                    x.see(0, (o + i) % e, false);
                }
                int many = 0;
                int first = NONE;
                for (int le = 1; le <= 10; le++) {
                    for (int lo = 0; lo < le; lo++) {
                        boolean fits = o % le == lo;
                        for (int i = 1; i < Math.min(e, 8); i++) {
                            fits &= (o + i) % e % le != lo;
                        }
                        first = fits && many == 0 ? 10 * le + lo : first;
                        many += fits ? 1 : 0;
                    }
                }
                due("laws by E " + e + ", O " + o, x.law(0, 0), many);
                due("the first by E " + e + ", O " + o, x.law(0, 1), first);
            }
        }
    }

    /** By hand: the last of all laws, 10 and 9, alone; 1 and 0 alone; the first by E, then by O. */
    private static void lawAlone() {
        SleepersShop last = Checks.shop(ONE);
        last.see(0, 99, true);
        int[] not = {98, 97, 94, 93, 92, 91, 90};
        for (int t : not) {
            last.see(0, t, false);
        }
        due("eight are seen", last.count(8), 8);
        due("laws", last.law(0, 0), 1);
        due("E 10, O 9", last.law(0, 1), 109);
        SleepersShop all = Checks.shop(ONE);
        all.see(0, 0, true);
        all.see(0, 1, true);
        due("every night", all.law(0, 0), 1);
        due("E 1, O 0", all.law(0, 1), 10);
        SleepersShop o = Checks.shop(ONE);
        o.see(0, 0, false);
        due("not on night 0: E 2, O 1 is the first", o.law(0, 1), 21);
        o.see(0, 1, false);
        due("nor on night 1: E 3, O 2", o.law(0, 1), 32);
        o.see(0, 2, false);
        due("nor on night 2: E 4, O 3", o.law(0, 1), 43);
        o.see(0, 7, false);
        due("nor on night 7: E 5, O 3", o.law(0, 1), 53);
        SleepersShop ten = Checks.shop(ONE);
        ten.see(0, 0, true);
        for (int i = 1; i <= 7; i++) {
            ten.see(0, i + 1, false);
        }
        due("not on 2 to 8: E 9, O 0 and E 10, O 0", ten.law(0, 0), 2);
        due("the first", ten.law(0, 1), 90);
    }

    private static void lawOfNone() {
        SleepersShop x = Checks.shop(ONE + ONE);
        x.see(0, 5, true);
        x.see(0, 5, false);
        due("none: how many", x.law(0, 0), 0);
        due("none: the first", x.law(0, 1), NONE);
        due("none, and wrong", x.law(0, 2), BAD);
        due("of the other all", x.law(1, 0), 55);
        SleepersShop told = Checks.shop("s0,0,10,9;");
        due("what is told of her does not count", told.law(0, 0), 55);
        told.see(0, 0, true);
        told.see(0, 1, true);
        due("but what was seen", told.law(0, 1), 10);
    }

    /** "STAFF (bits) that serve what he wants, and whom he would not WAKE" */
    private static void didOfAll() {
        SleepersShop x = Checks.shop("s0,0,1,0;s1,0,1,0;s2,0,1,0;s3,0,1,0;s1,5,1,0;s1,1,1,0;"
            + "c0,0,0,10;c0,0,0,11;c0,0,1,11;c0,0,2,11;c0,0,3,60;c0,1,3,1;c0,2,3,1;c0,5,3,1;c0,3,3,1;");
        int[] want = {1 + 2 + 8 + 16, 1 + 8, 2 + 4 + 8 + 16, 1 + 2 + 4 + 16, 31, 15 + 32, 32, 16, 0};
        for (int c = 0; c < want.length; c++) {
            due("did(" + c + ")", x.did(c), want[c]);
        }
        due("did(-1)", x.did(-1), BAD);
        due("did(9)", x.did(9), BAD);
        SleepersShop six = Checks.shop(Checks.times(ONE, 6) + "c0,0,3,1;");
        due("all six", six.did(0), 63);
    }

    /** Whether she WALKS, is AWAKE, has a SUPPER or QUARRELS, and whether he comes, is all one. */
    private static void didWhateverTheNight() {
        SleepersShop x = Checks.shop("s1,0,10,9;s0,0,1,0;s0,0,1,0;q1,2;c13,0,3,1;c0,0,1,1;h1;");
        for (int n = 0; n < 15; n++) {
            due("did(0) on night " + n, x.did(0), 7);
            due("did(1) on night " + n, x.did(1), 1);
            x.supper(n % 3);
            due("did(0) with a SUPPER", x.did(0), 7);
            x.pass(1);
        }
        SleepersShop awake = Checks.shop("s0,0,1,0;c0,0,1,1;c5,0,0,1;");
        awake.pass(1);
        due("of one AWAKE", awake.did(1), 1);
        due("of whom he would wake", awake.did(0), 0);
    }

    private static void chance(String what, SleepersShop x, int n, int tenths, int above, int below) {
        due("dogs(" + n + ", " + tenths + ", 0) " + what, x.dogs(n, tenths, 0), above);
        due("dogs(" + n + ", " + tenths + ", 1) " + what, x.dogs(n, tenths, 1), below);
    }

    private static void dogsOfNoNight() {
        SleepersShop ham = Checks.shop("s0,3,1,0;c0,0,0,1;");
        for (int tenths = 0; tenths <= 10; tenths++) {
            chance("of no night", ham, 0, tenths, 1, 1);
            chance("of one night with a HAM in any case", ham, 1, tenths, 0, 1);
            chance("of six nights with a HAM in any case", ham, 6, tenths, 0, 1);
        }
    }

    private static void dogsByNoneOrAll() {
        SleepersShop x = Checks.shop(ONE + "c0,0,0,1;c3,0,0,1;");
        for (int n = 0; n <= 6; n++) {
            chance("never a dog", x, n, 0, 1, 1);
            chance("a dog by all means", x, n, 10, n == 0 ? 1 : 0, 1);
        }
        x.pass(1);
        int[] above = {1, 1, 1, 0, 0, 0, 0};
        for (int n = 0; n <= 6; n++) {
            chance("from night 1", x, n, 10, above[n], 1);
        }
    }

    /** "in lowest terms": by each x of ten, on one, two and six nights on which a dog would matter. */
    private static void dogsInLowestTerms() {
        SleepersShop one = Checks.shop(ONE + "c0,0,0,1;");
        int[] above = {1, 9, 4, 7, 3, 1, 2, 3, 1, 1, 0};
        int[] below = {1, 10, 5, 10, 5, 2, 5, 10, 5, 10, 1};
        for (int tenths = 0; tenths <= 10; tenths++) {
            chance("on one night of six", one, 6, tenths, above[tenths], below[tenths]);
        }
        SleepersShop two = Checks.shop(ONE + "c0,0,0,1;c1,0,0,1;");
        chance("on two", two, 2, 1, 81, 100);
        chance("on two", two, 2, 2, 16, 25);
        chance("on two", two, 2, 5, 1, 4);
        chance("on two", two, 2, 9, 1, 100);
        SleepersShop six = Checks.shop(ONE + "c0,0,0,1;c1,0,0,1;c2,0,0,1;c3,0,0,1;c4,0,0,1;c5,0,0,1;c6,0,0,1;");
        chance("on six", six, 6, 1, 531441, 1000000);
        chance("on six", six, 6, 3, 117649, 1000000);
        chance("on six", six, 6, 7, 729, 1000000);
        chance("on six", six, 6, 9, 1, 1000000);
        chance("on six", six, 6, 8, 1, 15625);
        chance("on six", six, 6, 5, 1, 64);
        chance("on six", six, 6, 4, 729, 15625);
        // He who comes tonight wakes her and is served by the other: on the night behind she is AWAKE.
        SleepersShop wakes = Checks.shop("s0,0,1,0;s1,5,1,0;c0,0,1,1;c1,1,3,1;");
        chance("tonight", wakes, 1, 5, 1, 2);
        chance("with the night behind", wakes, 2, 5, 0, 1);
        chance("with the night behind, by no dog", wakes, 2, 0, 0, 1);
    }

    /** "whatever is told": the dogs of the text are none here. */
    private static void dogsWhateverIsTold() {
        String[] told = {"", "h1;", "h2;", "h10;"};
        for (String dog : told) {
            SleepersShop x = Checks.shop(ONE + "c0,0,0,1;c2,0,0,1;" + dog);
            chance(dog, x, 6, 0, 1, 1);
            chance(dog, x, 6, 3, 49, 100);
            chance(dog, x, 6, 10, 0, 1);
            due("he is told as before", x.count(4), dog.isEmpty() ? 1 : 0);
        }
    }

    private static void dogsAsThingsStand() {
        SleepersShop x = Checks.shop("s0,0,1,0;s0,0,1,0;q0,1;c0,0,1,1;c1,0,0,1;c3,0,0,1;c4,0,0,1;");
        chance("he wakes her and has a HAM", x, 1, 0, 0, 1);
        x.supper(0);
        chance("he wakes the other", x, 1, 0, 0, 1);
        x.pass(1);
        chance("the first serves, the other is AWAKE", x, 1, 1, 9, 10);
        x.supper(0);
        chance("and has a SUPPER tonight", x, 1, 0, 0, 1);
        x.lull(1);
        chance("the other is put to sleep", x, 1, 1, 9, 10);
        chance("then the first walks again", x, 4, 1, 729, 1000);
        due("nothing is changed", x.staff(0, 6), 1);
        due("no night has gone by", x.count(3), 1);
    }

    /** z 0: by k 0 x is 1, so DRAW is 0: a supper for 0. By k 1 x is 6152: 37847104 leaves 41487, so DRAW is 20743. */
    private static void yearOfOneNight() {
        SleepersShop x = Checks.shop("s0,0,1,0;c0,0,0,60;c1,0,0,60;");
        due("year(0, 1, 0)", x.year(0, 1, 0), 0);
        due("year(0, 1, 1)", x.year(0, 1, 1), 1);
        // 20743 by 8: 2592, modulo 3: 0: a supper once more.
        due("draw of k 1", 6152 * 6152 % 65521 / 2, 20743);
        due("year(0, 2, 0)", x.year(0, 2, 0), 0);
        due("year(0, 2, 1)", x.year(0, 2, 1), 2);
        x.pass(1);
        due("k is 0 on the first night from now on", x.year(0, 1, 1), 1);
        due("TILL then", x.year(0, 1, 0), 55);
        // 20743 modulo 2 is 1: on k 1 the other has a supper.
        SleepersShop two = Checks.shop("s0,0,1,0;s0,2,1,0;c0,0,0,10;c0,2,0,20;c1,0,0,10;c1,2,0,20;");
        due("DRAW modulo 2: TILL", two.year(0, 2, 0), 19 + 10);
        due("DRAW modulo 2: HAMS", two.year(0, 2, 1), 2);
        two.supper(0);
        due("if she has none", two.year(0, 1, 0), 19);
        two.supper(1);
        due("both have one", two.year(0, 1, 1), 2);
        due("for one night", two.year(0, 2, 1), 3);
    }

    /** z 3: x is 23758; 564442564 leaves 44670, so DRAW is 22335, by 8 2791, modulo 3 1: no supper. */
    private static void yearWithoutSuppers() {
        due("draw of z 3", 23758 * 23758 % 65521 / 2, 22335);
        SleepersShop x = Checks.shop("s0,0,1,0;c0,0,0,60;");
        due("year(3, 1, 0)", x.year(3, 1, 0), 55);
        due("year(3, 1, 1)", x.year(3, 1, 1), 0);
        x.supper(0);
        due("a SUPPER given ahead stays: TILL", x.year(3, 1, 0), 0);
        due("a SUPPER given ahead stays: HAMS", x.year(3, 1, 1), 1);
    }

    private static void yearBounds() {
        SleepersShop x = Checks.shop(ONE);
        int[][] bad = {{-1, 1, 0}, {10000, 1, 0}, {0, 0, 0}, {0, 41, 0}, {0, -1, 1}, {9999, 40, 2}, {0, 1, -1},
            {Checks.MIN, 1, 0}, {Checks.MAX, 1, 0}, {0, Checks.MIN, 0}, {0, Checks.MAX, 0}, {0, 1, Checks.MAX}};
        for (int[] one : bad) {
            due("year(" + one[0] + ", " + one[1] + ", " + one[2] + ")", x.year(one[0], one[1], one[2]), BAD);
        }
        int[][] good = {{0, 1, 0}, {9999, 1, 0}, {0, 40, 1}, {9999, 40, 1}};
        for (int[] one : good) {
            due("year(" + one[0] + ", " + one[1] + ", " + one[2] + ")", x.year(one[0], one[1], one[2]), 0);
        }
    }

    /** At the last numbers the square is of 16 figures: each night by each, against suppers given one by one. */
    private static void yearsFarOut() {
        String text = "s0,0,1,0;s1,0,1,0;s2,1,1,0;s3,0,1,0;s1,1,1,0;s0,2,1,0;q0,1;c0,0,3,9;c1,1,0,9;c5,0,1,60;c6,1,2,33;c9,3,0,24;";
        for (int z : new int[] {0, 1, 4999, 9998, 9999}) {
            for (int n : new int[] {1, 2, 13, 14, 15, 39, 40}) {
                SleepersShop x = Checks.shop(text);
                SleepersShop y = Checks.shop(text);
                for (int k = 0; k < n; k++) {
                    long at = 7919L * z + 6151L * k + 1;
                    int draw = java.math.BigInteger.valueOf(at).pow(2).mod(java.math.BigInteger.valueOf(65521)).intValue() / 2;
                    if (draw / 8 % 3 == 0) {
                        y.supper(draw % 6);
                    }
                    y.pass(1);
                }
                due("year(" + z + ", " + n + ", 0)", x.year(z, n, 0), y.count(5));
                due("year(" + z + ", " + n + ", 1)", x.year(z, n, 1), y.count(7));
                due("nothing changes", x.count(3), 0);
            }
        }
    }

    /** "TILL then; how many HAMS there are in it": of TILL all that is there, of HAMS those of the year alone. */
    private static void yearTillAndHams() {
        SleepersShop x = Checks.shop("s0,0,1,0;c0,0,0,60;c0,4,0,1;c3,4,0,1;");
        x.pass(2);
        due("TILL ahead", x.count(5), 55);
        due("HAMS ahead", x.count(7), 1);
        due("TILL of a year in which nobody pays", x.year(5, 12, 0), 55);
        due("HAMS of it", x.year(5, 12, 1), 1);
        due("HAMS of one night without", x.year(5, 1, 1), 0);
    }

    /** "KEPT ...: 2 at most" */
    private static void keptTwo() {
        SleepersShop x = Checks.shop(ONE);
        due("back() of none", x.back(), NO);
        due("keep()", x.keep(), 1);
        due("count(10)", x.count(10), 1);
        x.pass(1);
        due("keep()", x.keep(), 2);
        due("count(10)", x.count(10), 2);
        x.pass(1);
        due("keep() of a third", x.keep(), FULL);
        due("keep() of a third once more", x.keep(), FULL);
        due("count(10)", x.count(10), 2);
        due("back() to the last", x.back(), 1);
        due("night", x.count(3), 1);
        due("count(10)", x.count(10), 1);
        due("there is room for one", x.keep(), 2);
        due("and for no more", x.keep(), FULL);
        due("back()", x.back(), 1);
        due("back() to the first", x.back(), 0);
        due("night", x.count(3), 0);
        due("back() to none", x.back(), NO);
        due("night", x.count(3), 0);
        due("keep() again", x.keep(), 1);
    }

    /** "KEPT is all as it stands" */
    private static void keptAsItStands() {
        String text = "s0,0,1,0;s1,2,1,0;s0,4,1,0;q0,2;c0,0,1,60;c0,2,3,10;c1,2,2,23;c1,4,0,9;";
        SleepersShop x = Checks.shop(text);
        SleepersShop y = Checks.shop(text);
        for (SleepersShop one : new SleepersShop[] {x, y}) {
            one.pass(2);
            one.supper(1);
            one.settle(1, 2);
        }
        x.keep();
        x.lull(0);
        x.settle(0, 2);
        x.supper(2);
        x.pass(14);
        y.keep();
        y.back();
        due("back()", x.back(), 0);
        CHECKS.same("as it was kept", Checks.trail(x), Checks.trail(y));
    }

    /** "but what is SEEN and THE TEXT (these stay by back(), behind which nothing can be UNDONE)" */
    private static void backStays() {
        SleepersShop x = Checks.shop(ONE + ONE);
        x.see(0, 2, true);
        x.pass(1);
        x.keep();
        x.supper(0);
        x.see(1, 3, false);
        x.write('z');
        due("back()", x.back(), 0);
        due("SEEN", x.count(8), 2);
        due("laws", x.law(1, 0), 45);
        due("letters", x.count(11), 19);
        due("fault", x.fault(), 18);
        due("UNDONE", x.count(9), 0);
        due("undo()", x.undo(), NO);
        due("the SUPPER", x.staff(0, 6), 0);
        due("night", x.count(3), 1);
        x.supper(1);
        due("what comes behind can be UNDONE", x.undo(), 0);
        x.keep();
        x.forget();
        x.wipe();
        x.back();
        due("SEEN stays forgotten", x.count(8), 0);
        due("THE TEXT stays wiped", x.count(11), 0);
        SleepersShop y = Checks.shop(ONE);
        y.pass(1);
        y.keep();
        due("keep() leaves what can be UNDONE", y.count(9), 1);
        due("undo() leaves what is KEPT", y.undo(), 0);
        due("KEPT", y.count(10), 1);
        due("back()", y.back(), 0);
        due("the night is back", y.count(3), 1);
        y.pass(1);
        due("back() of none", y.back(), NO);
        due("what is refused leaves what can be UNDONE", y.count(9), 1);
    }

    private static void countEach() {
        String text = "s0,0,1,0;s1,2,1,0;s1,4,3,1;s3,1,2,0;q0,1;q2,3;c0,0,0,60;c0,2,3,20;c0,5,1,20;c1,3,0,1;";
        SleepersShop x = Checks.shop(text);
        int length = text.length();
        int[] first = {4, 4, 2, 0, 2, 0, 0, 0, 0, 0, 0, length};
        for (int what = 0; what < first.length; what++) {
            due("count(" + what + ") at first", x.count(what), first[what]);
        }
        x.pass(1);
        x.see(0, 0, true);
        x.keep();
        x.settle(0, 3);
        x.write('x');
        int[] then = {4, 4, 3, 1, 2, 55, 5, 1, 1, 2, 1, length + 1};
        for (int what = 0; what < then.length; what++) {
            due("count(" + what + ") then", x.count(what), then[what]);
        }
        for (int what : new int[] {-1, -2, 12, 13, Checks.MIN, Checks.MAX}) {
            due("count(" + what + ")", x.count(what), BAD);
        }
    }
}
