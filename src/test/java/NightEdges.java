/** The bounds of nights: who WALKS, who SERVES, who WAKES, what goes by, what is UNDONE (the document's section 2). */
public final class NightEdges {
    private static final int NONE = Checks.NONE, NO = Checks.NO, BAD = Checks.BAD, FULL = Checks.FULL;
    private static final String ONE = Checks.ONE;
    private static final Checks CHECKS = new Checks("NightEdges");

    private static void due(String what, int got, int want) {
        CHECKS.due(what, got, want);
    }

    public static void main(String[] args) {
        nightsOfEachLaw();
        nightsComeRound();
        dogAtNightNought();
        awakeDoNotWalk();
        suppersDoNotWalk();
        quarrelsOfThoseThatWalk();
        skillsComeRound();
        customersInTheirOrder();
        lowestFirst();
        wokenOnlyOnce();
        penceOfAGrocer();
        ninePartsOfAHundred();
        inWhiteNothing();
        awakeForThree();
        wokenAgain();
        supperForOneNight();
        passBounds();
        passAsManyTimesOne();
        supperEdges();
        settleEdges();
        lullEdges();
        lastEightUndone();
        eachUndone();
        countOfThoseThatWalk();
        CHECKS.end();
    }

    private static int[] answers(SleepersShop x, int what) {
        int[] all = new int[x.count(0)];
        for (int s = 0; s < all.length; s++) {
            all[s] = x.staff(s, what);
        }
        return all;
    }

    private static void dueRow(String what, int[] got, int... want) {
        CHECKS.same(what, java.util.Arrays.toString(got), java.util.Arrays.toString(want));
    }

    /** "if it is O modulo E (O may be E or more)": O nights behind night 0, and each E nights ahead and behind. */
    private static void nightsOfEachLaw() {
        for (int e = 1; e <= 10; e++) {
            for (int o = 0; o <= 9; o++) {
                SleepersShop x = Checks.shop("s0,0," + e + "," + o + ";");
                for (int n = 0; n <= 31; n++) {
                    boolean walks = Math.floorMod(n - o, e) == 0;
                    due("E " + e + ", O " + o + " on night " + n, x.staff(0, 4), walks ? 1 : 0);
                    x.pass(1);
                }
            }
        }
    }

    /** "behind night 13 the CUSTOMERS of night 0 come again (nights are counted on)" */
    private static void nightsComeRound() {
        for (int night = 0; night <= 13; night++) {
            SleepersShop x = Checks.shop(ONE + "c" + night + ",0,3,1;");
            for (int n = 0; n <= 45; n++) {
                boolean comes = n == night || n == night + 14 || n == night + 28 || n == night + 42;
                due("customer of night " + night + " on night " + n, x.customer(0, 4), comes ? 1 : 0);
                due("served on night " + n, x.customer(0, 5), comes ? 0 : NONE);
                due("night told", x.customer(0, 0), night);
                due("night counted on", x.count(3), n);
                x.pass(1);
            }
        }
        SleepersShop all = Checks.shop(ONE + "c0,0,0,1;c13,0,0,2;");
        due("till behind night 13", all.behind(14, 0), 3);
        due("till behind night 14", all.behind(15, 0), 4);
        due("till behind night 27", all.behind(28, 0), 6);
    }

    /** "on nights that are 0 modulo D": night 0 is the first such, by each D. */
    private static void dogAtNightNought() {
        for (int d = 1; d <= 10; d++) {
            SleepersShop x = Checks.shop(ONE + "c0,0,0,50;h" + d + ";");
            due("who WALKS on night 0 by h" + d, x.count(4), 0);
            due("who SERVES by h" + d, x.customer(0, 5), NONE);
            due("who is WOKEN by h" + d, x.woken(), 0);
            x.pass(1);
            due("a HAM by h" + d, x.count(7), 1);
            due("no pence by h" + d, x.count(5), 0);
            due("who WALKS on night 1 by h" + d, x.count(4), d == 1 ? 0 : 1);
        }
    }

    private static void awakeDoNotWalk() {
        SleepersShop x = Checks.shop("s0,0,1,0;s0,0,1,0;q0,1;c0,0,1,9;c1,0,0,9;c2,0,1,9;");
        dueRow("who WALKS on night 0", answers(x, 4), 1, 0);
        x.pass(1);
        dueRow("one AWAKE bars nobody", answers(x, 4), 0, 1);
        due("who SERVES then", x.customer(1, 5), 1);
        x.lull(0);
        dueRow("put to sleep she WALKS", answers(x, 4), 1, 0);
        x.undo();
        x.pass(1);
        due("on night 2 the other is WOKEN", x.woken(), 2);
        x.pass(1);
        dueRow("both AWAKE on night 3", answers(x, 5), 1, 3);
        dueRow("none WALKS on night 3", answers(x, 4), 0, 0);
        x.pass(1);
        dueRow("AWAKE on night 4", answers(x, 5), 0, 2);
        dueRow("who WALKS on night 4", answers(x, 4), 1, 0);
    }

    private static void suppersDoNotWalk() {
        SleepersShop x = Checks.shop("s0,0,1,0;s0,0,1,0;s0,0,2,1;q0,1;q1,2;");
        dueRow("who WALKS", answers(x, 4), 1, 0, 0);
        x.supper(0);
        dueRow("one with a SUPPER bars nobody", answers(x, 4), 0, 1, 0);
        x.supper(1);
        dueRow("two with a SUPPER", answers(x, 4), 0, 0, 0);
        x.pass(1);
        dueRow("nobody has a SUPPER", answers(x, 6), 0, 0, 0);
        dueRow("1 is barred by 0, so 2 WALKS", answers(x, 4), 1, 0, 1);
    }

    /** "none of lower number that WALKS on it QUARRELS with her": each of six with each, so only the first walks. */
    private static void quarrelsOfThoseThatWalk() {
        String six = Checks.times(ONE, 6);
        for (int a = 0; a < 6; a++) {
            for (int b = a + 1; b < 6; b++) {
                SleepersShop x = Checks.shop(six + "q" + b + "," + a + ";");
                for (int s = 0; s < 6; s++) {
                    due(s + " by the quarrel of " + a + " and " + b, x.staff(s, 4), s == b ? 0 : 1);
                }
            }
        }
        SleepersShop chain = Checks.shop(six + "q0,1;q1,2;q2,3;q3,4;q4,5;");
        dueRow("each with the next one", answers(chain, 4), 1, 0, 1, 0, 1, 0);
        chain.supper(0);
        dueRow("0 has a SUPPER", answers(chain, 4), 0, 1, 0, 1, 0, 1);
        chain.supper(3);
        dueRow("3 has one, too", answers(chain, 4), 0, 1, 0, 0, 1, 0);
        SleepersShop lone = Checks.shop("s0,0,2,1;s0,0,1,0;s0,0,1,0;q0,1;q0,2;");
        dueRow("0 does not walk on night 0", answers(lone, 4), 0, 1, 1);
        lone.pass(1);
        dueRow("0 WALKS on night 1", answers(lone, 4), 1, 0, 0);
        SleepersShop dog = Checks.shop(ONE + ONE + "q0,1;h2;");
        dueRow("by the DOG", answers(dog, 4), 0, 0);
        dog.pass(1);
        dueRow("without", answers(dog, 4), 1, 0);
    }

    /** "she serves thing S, and the next one, behind 5 thing 0" */
    private static void skillsComeRound() {
        for (int skill = 0; skill <= 5; skill++) {
            for (int thing = 0; thing <= 5; thing++) {
                boolean serves = thing == skill || thing == skill + 1 || skill == 5 && thing == 0;
                SleepersShop x = Checks.shop("s0," + skill + ",1,0;c0," + thing + ",3,1;");
                due("skill " + skill + ", thing " + thing, x.customer(0, 5), serves ? 0 : NONE);
                due("did of skill " + skill + ", thing " + thing, x.did(0), serves ? 1 : 0);
                due("ask of skill " + skill + ", thing " + thing, x.ask(0), serves ? 0 : NONE);
                due("ham of skill " + skill + ", thing " + thing, x.behind(1, 2), serves ? 0 : 1);
            }
        }
    }

    /** "On a night its CUSTOMERS come, 0 first": who comes behind one that wakes her goes without. */
    private static void customersInTheirOrder() {
        SleepersShop x = Checks.shop("s0,0,1,0;c0,0,0,7;c0,0,1,7;c0,0,0,7;");
        dueRow("by their numbers", new int[] {x.customer(0, 5), x.customer(1, 5), x.customer(2, 5)}, 0, NONE, NONE);
        due("WOKEN", x.woken(), 1);
        x.pass(1);
        due("HAMS", x.count(7), 2);
        due("TILL", x.count(5), 7);
        SleepersShop y = Checks.shop("s0,0,1,0;c0,0,1,7;c0,0,0,7;c0,0,0,7;");
        dueRow("turned", new int[] {y.customer(0, 5), y.customer(1, 5), y.customer(2, 5)}, NONE, NONE, NONE);
        SleepersShop z = Checks.shop("s0,0,1,0;c1,0,1,7;c0,0,0,7;");
        due("who comes on another night wakes nobody", z.customer(1, 5), 0);
        due("not on this night", z.customer(0, 5), NONE);
        due("nobody WOKEN on night 0", z.woken(), 0);
        z.pass(1);
        due("WOKEN on night 1", z.woken(), 1);
    }

    private static void lowestFirst() {
        SleepersShop x = Checks.shop(Checks.times(ONE, 6) + "c0,1,0,1;");
        for (int s = 0; s < 6; s++) {
            due("the lowest that WALKS", x.customer(0, 5), s);
            x.supper(s);
        }
        due("all with a SUPPER", x.customer(0, 5), NONE);
        SleepersShop y = Checks.shop("s0,2,1,0;s0,0,1,0;s0,1,1,0;s0,1,1,0;c0,2,0,1;c0,1,0,1;c0,0,0,1;");
        dueRow("the lowest that serves it", new int[] {y.customer(0, 5), y.customer(1, 5), y.customer(2, 5)}, 0, 1, 1);
    }

    /** "were not WOKEN on this night": one customer wakes all that he can, the next ones find none. */
    private static void wokenOnlyOnce() {
        SleepersShop x = Checks.shop(Checks.times("s2,0,1,0;", 6) + "c0,0,0,1;c0,0,3,1;c0,2,3,1;");
        due("WOKEN, all six", x.woken(), 63);
        due("the first", x.customer(0, 5), NONE);
        due("the second, in white", x.customer(1, 5), NONE);
        SleepersShop y = Checks.shop("s2,0,1,0;s2,0,1,0;s1,0,1,0;s2,0,1,0;c0,0,0,10;c0,0,0,11;");
        due("he goes on to the first that he does not wake", y.customer(0, 5), 2);
        due("with 11 pence the grocer wakes, and the last poet", y.customer(1, 5), NONE);
        due("WOKEN", y.woken(), 15);
        SleepersShop z = Checks.shop("s2,0,1,0;s2,1,1,0;c0,2,0,5;");
        due("who does not serve it is not WOKEN", z.woken(), 2);
        due("of several nights, this one", z.count(3), 0);
        z.pass(1);
        due("nobody comes on night 1", z.woken(), 0);
        SleepersShop asleep = Checks.shop("s2,0,2,1;c0,0,0,5;");
        due("who does not WALK is not WOKEN", asleep.woken(), 0);
    }

    /** "if he has more than 10 pence, a GROCER" */
    private static void penceOfAGrocer() {
        for (int pence = 1; pence <= 60; pence++) {
            SleepersShop x = Checks.shop("s1,0,1,0;c0,0,0," + pence + ";");
            due("WOKEN by " + pence, x.woken(), pence > 10 ? 1 : 0);
            due("SERVED with " + pence, x.customer(0, 5), pence > 10 ? NONE : 0);
            due("DID with " + pence, x.did(0), pence > 10 ? 0 : 1);
            due("ASK with " + pence, x.ask(0), pence > 10 ? 1 : 0);
            SleepersShop poet = Checks.shop("s2,0,1,0;c0,0,0," + pence + ";");
            due("a POET by " + pence, poet.woken(), 1);
            SleepersShop others = Checks.shop("s0,0,1,0;s3,2,1,0;c0,0,0," + pence + ";c0,2,0," + pence + ";");
            due("a JUDGE, a MOTHER by " + pence, others.woken(), 0);
        }
    }

    /** "of each one's nine parts of a hundred, cut": 11 pence give none, 12 give one, by each one alone. */
    private static void ninePartsOfAHundred() {
        int[] pence = {1, 11, 12, 22, 23, 33, 34, 44, 45, 55, 56, 60};
        int[] drawer = {0, 0, 1, 1, 2, 2, 3, 3, 4, 4, 5, 5};
        for (int i = 0; i < pence.length; i++) {
            SleepersShop x = Checks.shop(ONE + "c0,0,0," + pence[i] + ";");
            due("TILL of " + pence[i], x.behind(1, 0), pence[i] - drawer[i]);
            due("DRAWER of " + pence[i], x.behind(1, 1), drawer[i]);
        }
        SleepersShop x = Checks.shop(ONE + Checks.times("c0,0,0,11;", 10));
        x.pass(1);
        due("ten with 11 pence: TILL", x.count(5), 110);
        due("ten with 11 pence: DRAWER", x.count(6), 0);
        SleepersShop y = Checks.shop(ONE + Checks.times("c0,0,0,60;", 10));
        y.pass(1);
        due("ten with 60 pence: TILL", y.count(5), 550);
        due("ten with 60 pence: DRAWER", y.count(6), 50);
        y.pass(14);
        due("once more on night 14: TILL", y.count(5), 1100);
        due("once more on night 14: DRAWER", y.count(6), 100);
    }

    private static void inWhiteNothing() {
        for (int pence : new int[] {1, 12, 60}) {
            SleepersShop x = Checks.shop("s0,0,1,0;s1,2,1,0;c0,0,3," + pence + ";c0,2,3," + pence + ";");
            x.pass(1);
            due("TILL in white", x.count(5), 0);
            due("DRAWER in white", x.count(6), 0);
            due("HAMS in white", x.count(7), 0);
            due("WOKEN in white", x.staff(1, 5), 0);
        }
        SleepersShop ham = Checks.shop("s0,3,1,0;c0,0,3,60;c0,0,0,60;");
        ham.pass(1);
        due("with a HAM nobody pays", ham.count(5) + ham.count(6), 0);
        due("two HAMS", ham.count(7), 2);
    }

    /** "who was WOKEN on it is AWAKE for three more, who was AWAKE on it for one less" */
    private static void awakeForThree() {
        SleepersShop x = Checks.shop("s0,0,1,0;c0,0,1,9;c1,0,3,9;c2,0,3,9;c3,0,3,9;c4,0,3,9;");
        int[] awake = {0, 3, 2, 1, 0, 0};
        int[] hams = {0, 1, 2, 3, 4, 4};
        for (int n = 0; n < awake.length; n++) {
            due("AWAKE on night " + n, x.staff(0, 5), awake[n]);
            due("WALKS on night " + n, x.staff(0, 4), awake[n] == 0 ? 1 : 0);
            due("HAMS by night " + n, x.count(7), hams[n]);
            x.pass(1);
        }
        SleepersShop never = Checks.shop(ONE);
        never.pass(1);
        due("who was not AWAKE is not so for less", never.staff(0, 5), 0);
        never.pass(14);
        due("nor behind many", never.staff(0, 5), 0);
    }

    /** She is WOKEN on nights 0 and 4, and not on 3, on which she is AWAKE. */
    private static void wokenAgain() {
        SleepersShop x = Checks.shop("s0,0,1,0;c0,0,1,9;c3,0,1,9;c4,0,1,9;");
        int[] awake = {0, 3, 2, 1, 0, 3, 2, 1, 0};
        for (int n = 0; n < awake.length; n++) {
            due("AWAKE on night " + n, x.staff(0, 5), awake[n]);
            due("WOKEN on night " + n, x.woken(), n == 0 || n == 4 ? 1 : 0);
            x.pass(1);
        }
        SleepersShop y = Checks.shop("s0,0,1,0;c0,0,1,9;c1,0,1,9;");
        y.pass(1);
        due("lull", y.lull(0), 3);
        due("put to sleep she is WOKEN once more", y.woken(), 1);
        y.pass(1);
        due("and AWAKE for three", y.staff(0, 5), 3);
    }

    /** "nobody has a SUPPER" behind a night, and within nights that go by at one time. */
    private static void supperForOneNight() {
        SleepersShop x = Checks.shop(ONE + ONE + "c0,0,0,9;c1,0,0,9;c2,0,0,9;");
        x.supper(0);
        x.supper(1);
        due("both have one", x.behind(1, 2), 1);
        due("on the night behind they WALK", x.behind(3, 0), 18);
        x.pass(3);
        due("HAMS of three nights at one time", x.count(7), 1);
        due("TILL of three nights at one time", x.count(5), 18);
        dueRow("nobody has a SUPPER", answers(x, 6), 0, 0);
        due("one can be given again", x.supper(0), 1);
        x.undo();
        x.undo();
        dueRow("both have one again", answers(x, 6), 1, 1);
    }

    /** "n NIGHTS (1 to 14) go by" */
    private static void passBounds() {
        for (int n = -20; n <= 40; n++) {
            SleepersShop x = Checks.shop(ONE);
            boolean within = n >= 1 && n <= 14;
            due("pass(" + n + ")", x.pass(n), within ? n : BAD);
            due("nights behind pass(" + n + ")", x.count(3), within ? n : 0);
            due("UNDONE behind pass(" + n + ")", x.count(9), within ? 1 : 0);
        }
        SleepersShop x = Checks.shop(ONE);
        due("pass(MIN)", x.pass(Checks.MIN), BAD);
        due("pass(MAX)", x.pass(Checks.MAX), BAD);
        for (int i = 1; i <= 60; i++) {
            due("in all, the " + i + "th time", x.pass(14), 14 * i);
        }
    }

    private static void passAsManyTimesOne() {
        for (int n = 1; n <= 14; n++) {
            SleepersShop x = new SleepersShop();
            SleepersShop y = new SleepersShop();
            x.supper(2);
            y.supper(2);
            x.pass(n);
            for (int i = 0; i < n; i++) {
                y.pass(1);
            }
            for (int what = 2; what <= 7; what++) {
                due("count(" + what + ") behind pass(" + n + ")", x.count(what), y.count(what));
            }
            dueRow("AWAKE behind pass(" + n + ")", answers(x, 5), answers(y, 5));
            dueRow("SUPPERS behind pass(" + n + ")", answers(x, 6), answers(y, 6));
            due("they are one", x.count(9), 2);
            due("each is one", y.count(9), Math.min(n + 1, 8));
        }
    }

    private static void supperEdges() {
        SleepersShop x = Checks.shop(Checks.times(ONE, 6) + "c0,0,0,1;");
        for (int s = 5; s >= 0; s--) {
            due("supper(" + s + ")", x.supper(s), 6 - s);
            due("supper(" + s + ") once more: she has", x.supper(s), NO);
            due("count(9)", x.count(9), 6 - s);
        }
        due("supper(6)", x.supper(6), BAD);
        due("supper(-1)", x.supper(-1), BAD);
        due("none WALKS", x.count(4), 0);
        x.pass(1);
        due("supper(5) on the next night", x.supper(5), 1);
        SleepersShop y = Checks.shop("s0,0,1,0;s0,0,2,1;c0,0,1,9;");
        due("one that does not WALK can have one", y.supper(1), 1);
        y.pass(1);
        due("one AWAKE can have one", y.supper(0), 1);
        due("and stays AWAKE", y.staff(0, 5), 3);
        y.lull(0);
        due("put to sleep she has it", y.staff(0, 6), 1);
        due("and does not WALK", y.staff(0, 4), 0);
    }

    /** "A QUARREL is made up, or begun ... FULL: there are 6": then one can still be made up. */
    private static void settleEdges() {
        SleepersShop x = Checks.shop(Checks.times(ONE, 6));
        int[][] pairs = {{0, 1}, {5, 4}, {0, 5}, {4, 0}, {2, 3}, {3, 1}};
        for (int i = 0; i < 6; i++) {
            due("begun, the " + (i + 1) + "th", x.settle(pairs[i][0], pairs[i][1]), 1);
            due("QUARRELS", x.count(2), i + 1);
        }
        for (int a = -1; a <= 6; a++) {
            for (int b = -1; b <= 6; b++) {
                boolean two = a >= 0 && b >= 0 && a < 6 && b < 6 && a != b;
                if (!two || x.quarrel(a, b) == 0) {
                    due("settle(" + a + ", " + b + ") by six", x.settle(a, b), two ? FULL : BAD);
                }
            }
        }
        due("six still", x.count(2), 6);
        due("six can be undone", x.count(9), 6);
        for (int[] two : pairs) {
            due("made up by six", x.settle(two[1], two[0]), 0);
            due("five", x.count(2), 5);
            due("begun as the sixth", x.settle(two[0], two[1]), 1);
            due("six", x.count(2), 6);
        }
        for (int i = 0; i < 6; i++) {
            due("made up, the " + (i + 1) + "th", x.settle(pairs[i][0], pairs[i][1]), 0);
            due("QUARRELS left", x.count(2), 5 - i);
        }
        due("begun by none", x.settle(1, 0), 1);
        SleepersShop one = Checks.shop(ONE);
        due("one alone", one.settle(0, 0), BAD);
        due("one and another that is not", one.settle(0, 1), BAD);
        SleepersShop told = Checks.shop(Checks.times(ONE, 5) + "q0,1;q0,2;q0,3;q0,4;q1,2;q1,3;");
        due("six as told: FULL", told.settle(1, 4), FULL);
        due("made up", told.settle(3, 1), 0);
        due("then begun", told.settle(1, 4), 1);
    }

    /** "One AWAKE is put to sleep: for how many nights she was. BAD; NO: she is not AWAKE." */
    private static void lullEdges() {
        for (int n = 0; n <= 5; n++) {
            SleepersShop x = Checks.shop("s0,0,1,0;s0,2,1,0;c0,0,1,9;");
            for (int i = 0; i < n; i++) {
                x.pass(1);
            }
            due("lull(0) on night " + n, x.lull(0), n == 0 || n >= 4 ? NO : 4 - n);
            due("she is not AWAKE then", x.staff(0, 5), 0);
            due("lull(0) once more on night " + n, x.lull(0), NO);
            due("lull(1) on night " + n, x.lull(1), NO);
            due("lull(2)", x.lull(2), BAD);
            due("lull(-1)", x.lull(-1), BAD);
            due("UNDONE on night " + n, x.count(9), n == 0 || n >= 4 ? n : n + 1);
            due("she WALKS", x.staff(0, 4), 1);
        }
    }

    /** "the last 8 can be": the ninth lets the first go. */
    private static void lastEightUndone() {
        for (int many = 0; many <= 12; many++) {
            SleepersShop x = Checks.shop(ONE + ONE);
            for (int i = 0; i < many; i++) {
                due("count(9)", x.count(9), Math.min(i, 8));
                x.settle(0, 1);
            }
            int left = Math.min(many, 8);
            due("count(9) behind " + many, x.count(9), left);
            due("by " + many + " they quarrel", x.quarrel(0, 1), many % 2);
            for (int i = left - 1; i >= 0; i--) {
                due("undo() behind " + many, x.undo(), i);
                due("count(9)", x.count(9), i);
                due("they quarrel", x.quarrel(0, 1), (many - left + i) % 2);
            }
            due("undo() of none", x.undo(), NO);
            due("undo() of none once more", x.undo(), NO);
            due("they quarrel as they did", x.quarrel(0, 1), (many - left) % 2);
        }
        for (int many = 8; many <= 20; many++) {
            SleepersShop each = Checks.shop(ONE);
            for (int i = 0; i < many; i++) {
                each.pass(1 + i % 14);
            }
            int night = each.count(3);
            for (int i = many - 1; i >= many - 8; i--) {
                night -= 1 + i % 14;
                due("undo() of the " + (i + 1) + "th", each.undo(), i - many + 8);
                due("nights then", each.count(3), night);
            }
            due("undo() of one more", each.undo(), NO);
            due("nights then", each.count(3), night);
        }
        SleepersShop x = Checks.shop(ONE);
        for (int i = 0; i < 9; i++) {
            x.pass(14);
        }
        due("the first of nine stays", x.count(3), 126);
        for (int i = 0; i < 8; i++) {
            x.undo();
        }
        due("nights then", x.count(3), 14);
        due("no more", x.undo(), NO);
        due("can be once more behind a new one", x.supper(0), 1);
        due("one", x.count(9), 1);
        due("undo()", x.undo(), 0);
        SleepersShop full = Checks.shop(ONE);
        for (int i = 0; i < 9; i++) {
            full.pass(1);
        }
        due("the last of eight undone: seven more", full.undo(), 7);
        full.pass(1);
        due("eight again", full.count(9), 8);
        full.pass(1);
        due("and not nine", full.count(9), 8);
    }

    /** Each of the four kinds is undone to what was ahead of it, TILL, DRAWER, HAMS and AWAKE, too. */
    private static void eachUndone() {
        String text = "s0,0,1,0;s1,2,1,0;s3,0,1,0;q0,2;c0,0,1,60;c0,2,0,10;c1,0,2,23;c1,4,0,9;c2,0,0,60;";
        for (int kind = 0; kind < 4; kind++) {
            for (int nights = 1; nights <= 3; nights++) {
                SleepersShop x = Checks.shop(text);
                SleepersShop y = Checks.shop(text);
                x.pass(nights);
                y.pass(nights);
                int got = kind == 0 ? x.pass(7) : kind == 1 ? x.supper(1) : kind == 2 ? x.settle(2, 0) : x.lull(0);
                due("it stands, kind " + kind, got >= 0 ? 1 : 0, 1);
                due("two", x.count(9), 2);
                due("undo()", x.undo(), 1);
                CHECKS.same("kind " + kind + " undone on night " + nights, Checks.trail(x), Checks.trail(y));
            }
        }
    }

    private static void countOfThoseThatWalk() {
        SleepersShop x = Checks.shop(Checks.times("s0,0,2,0;", 3) + Checks.times("s0,0,2,1;", 3) + "q3,5;h4;");
        int[] want = {0, 2, 3, 2, 0, 2, 3, 2, 0};
        for (int n = 0; n < want.length; n++) {
            due("count(4) on night " + n, x.count(4), want[n]);
            int sum = 0;
            for (int s = 0; s < 6; s++) {
                sum += x.staff(s, 4);
            }
            due("as they are asked one by one", sum, want[n]);
            x.pass(1);
        }
        SleepersShop six = Checks.shop(Checks.times(ONE, 6));
        due("all six", six.count(4), 6);
        SleepersShop woken = Checks.shop("s2,0,1,0;c0,0,0,1;");
        due("who is WOKEN on this night WALKS on it", woken.count(4), 1);
    }
}
