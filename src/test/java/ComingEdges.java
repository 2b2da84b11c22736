/** The bounds of what comes: BEHIND, HAM, SUPPERS, APART, ASK (the document's section 3). */
public final class ComingEdges {
    private static final int NONE = Checks.NONE, BAD = Checks.BAD;
    private static final String ONE = Checks.ONE;
    private static final Checks CHECKS = new Checks("ComingEdges");

    private static void due(String what, int got, int want) {
        CHECKS.due(what, got, want);
    }

    public static void main(String[] args) {
        behindBounds();
        behindAsPassed();
        behindSoFar();
        hamAtTheLastNight();
        hamOfTheFirstOne();
        hamOneMore();
        hamByDogs();
        noCustomers();
        suppersOfNone();
        suppersAllOfThose();
        suppersFewestThenLowest();
        suppersOfThoseThatHaveNone();
        apartBounds();
        apartOfNone();
        apartNumbers();
        apartFewestThenLowest();
        apartTogether();
        askEachWay();
        askBehindOthers();
        askNone();
        CHECKS.end();
    }

    private static void both(String what, int first, int second, int wantFirst, int wantSecond) {
        due(what + ", what = 0", first, wantFirst);
        due(what + ", what = 1", second, wantSecond);
    }

    private static void suppers(String what, SleepersShop x, int set, int served) {
        both("suppers: " + what, x.suppers(0), x.suppers(1), set, served);
    }

    private static void apart(String what, SleepersShop x, int n, int served, int set) {
        both("apart(" + n + "): " + what, x.apart(n, 0), x.apart(n, 1), served, set);
    }

    private static void ham(String what, SleepersShop x, int behind, int whose) {
        both("ham: " + what, x.ham(0), x.ham(1), behind, whose);
    }

    /** "BEHIND n NIGHTS (0 to 28)" */
    private static void behindBounds() {
        SleepersShop x = Checks.shop(ONE + "c0,0,0,12;c13,0,0,23;c13,3,0,1;");
        int[] till = {0, 11, 11, 32, 43, 64};
        int[] drawer = {0, 1, 1, 3, 4, 6};
        int[] hams = {0, 0, 0, 1, 1, 2};
        int[] at = {0, 1, 13, 14, 15, 28};
        for (int i = 0; i < at.length; i++) {
            due("behind(" + at[i] + ", 0)", x.behind(at[i], 0), till[i]);
            due("behind(" + at[i] + ", 1)", x.behind(at[i], 1), drawer[i]);
            due("behind(" + at[i] + ", 2)", x.behind(at[i], 2), hams[i]);
        }
        for (int what = -2; what <= 4; what++) {
            due("behind(-1, " + what + ")", x.behind(-1, what), BAD);
            due("behind(29, " + what + ")", x.behind(29, what), BAD);
            if (what < 0 || what > 2) {
                due("behind(0, " + what + ")", x.behind(0, what), BAD);
                due("behind(28, " + what + ")", x.behind(28, what), BAD);
            }
        }
        due("behind(27, 2)", x.behind(27, 2), 1);
    }

    private static void behindAsPassed() {
        SleepersShop x = new SleepersShop();
        x.pass(3);
        x.supper(3);
        x.settle(0, 2);
        for (int n = 0; n <= 28; n++) {
            SleepersShop y = new SleepersShop();
            y.pass(3);
            y.supper(3);
            y.settle(0, 2);
            for (int i = 0; i < n; i++) {
                y.pass(1);
            }
            for (int what = 0; what <= 2; what++) {
                due("behind(" + n + ", " + what + ")", x.behind(n, what), y.count(5 + what));
            }
        }
        due("no night has gone by", x.count(3), 3);
        due("she has her SUPPER", x.staff(3, 6), 1);
    }

    /** "TILL; DRAWER; HAMS so far": what was there ahead counts, too. */
    private static void behindSoFar() {
        SleepersShop x = Checks.shop(ONE + "c0,0,0,60;c0,3,0,1;c2,0,0,12;c2,4,0,1;");
        x.pass(1);
        int[] now = {55, 5, 1};
        int[] then = {66, 6, 2};
        for (int what = 0; what <= 2; what++) {
            due("behind(0, " + what + ")", x.behind(0, what), now[what]);
            due("behind(1, " + what + ")", x.behind(1, what), now[what]);
            due("behind(2, " + what + ")", x.behind(2, what), then[what]);
        }
    }

    /** "behind how many NIGHTS (1 to 28)": served on nights 0 and 14, not on night 28. */
    private static void hamAtTheLastNight() {
        SleepersShop x = Checks.shop("s0,0,9,0;s0,0,9,5;c0,0,0,5;");
        ham("none of 28", x, NONE, NONE);
        x.pass(1);
        ham("behind the 28th", x, 28, 0);
        x.pass(13);
        ham("behind the 15th", x, 15, 0);
        x.pass(14);
        ham("behind the first", x, 1, 0);
        x.pass(1);
        ham("again on night 42", x, 14, 0);
        x.undo();
        x.undo();
        x.undo();
        x.undo();
        ham("as at first", x, NONE, NONE);
    }

    /** "whose (the first one's)": the first of that night, not of all. */
    private static void hamOfTheFirstOne() {
        SleepersShop x = Checks.shop(ONE + "c5,3,0,5;c1,0,0,5;c1,4,0,5;c1,3,0,5;");
        ham("of night 1 the first without", x, 2, 2);
        x.pass(2);
        ham("of night 5", x, 4, 0);
        SleepersShop nine = Checks.shop(ONE + Checks.times("c0,1,0,5;", 9) + "c0,2,0,5;");
        ham("the tenth one's", nine, 1, 9);
        nine.supper(0);
        ham("now the first one's", nine, 1, 0);
    }

    /** "there is one more": those of the nights gone by are none of them. */
    private static void hamOneMore() {
        SleepersShop x = Checks.shop("s0,0,1,0;c0,0,1,5;c3,0,3,5;c4,0,0,5;");
        ham("who wakes her has it himself", x, 1, 0);
        x.pass(1);
        ham("she is AWAKE on night 3", x, 3, 1);
        x.lull(0);
        ham("put to sleep: night 14", x, 14, 0);
        x.undo();
        x.pass(2);
        ham("on the night itself", x, 1, 1);
        x.pass(1);
        ham("on night 4 she WALKS", x, 11, 0);
    }

    private static void hamByDogs() {
        SleepersShop x = Checks.shop(ONE + "c9,0,0,5;h10;");
        ham("a customer of night 9, by no dog", x, NONE, NONE);
        SleepersShop y = Checks.shop(ONE + "c10,0,0,5;h10;");
        ham("on night 10 there is one", y, 11, 0);
        y.pass(11);
        ham("on night 24, 38: none", y, NONE, NONE);
    }

    private static void noCustomers() {
        SleepersShop x = Checks.shop(Checks.times(ONE, 6) + "q0,1;q0,2;");
        ham("no customers", x, NONE, NONE);
        suppers("no customers", x, 0, 0);
        apart("no customers", x, 1, 0, 0);
        apart("no customers", x, 14, 0, 0);
        for (int what = 0; what <= 2; what++) {
            due("behind(28, " + what + ")", x.behind(28, what), 0);
        }
        due("dogs above", x.dogs(6, 10, 0), 1);
        due("dogs below", x.dogs(6, 10, 1), 1);
        due("year: TILL", x.year(0, 40, 0), 0);
        due("year: HAMS", x.year(0, 40, 1), 0);
        due("woken", x.woken(), 0);
        due("customer(0, 0)", x.customer(0, 0), BAD);
        due("ask(0)", x.ask(0), BAD);
        due("did(0)", x.did(0), BAD);
        due("pass(14)", x.pass(14), 14);
    }

    /** None can be the best set, and none be served by it. */
    private static void suppersOfNone() {
        SleepersShop one = Checks.shop(ONE + "c0,0,0,5;");
        suppers("none is best", one, 0, 1);
        one.supper(0);
        suppers("she has one", one, 0, 0);
        one.pass(1);
        suppers("nobody comes", one, 0, 0);
        SleepersShop wakes = Checks.shop(ONE + "c0,0,1,5;");
        suppers("none is served by any", wakes, 0, 0);
        SleepersShop dog = Checks.shop(ONE + ONE + "q0,1;c0,0,0,5;h1;");
        suppers("by a dog", dog, 0, 0);
    }

    /** 0, 2 and 4 bar all others, who alone serve: each set up to all of six can be the answer. */
    private static void suppersAllOfThose() {
        SleepersShop x = Checks.shop("s0,0,1,0;s0,2,1,0;s0,0,1,0;s0,2,1,0;s0,0,1,0;s0,4,1,0;q0,1;q0,3;q0,5;q2,5;q4,5;c0,4,0,5;");
        suppers("0, 2 and 4", x, 1 + 4 + 16, 1);
        x.settle(0, 5);
        suppers("2 and 4", x, 4 + 16, 1);
        x.settle(2, 5);
        suppers("4", x, 16, 1);
        x.settle(4, 5);
        suppers("none", x, 0, 1);
        SleepersShop last = Checks.shop("s0,3,1,0;s0,3,1,0;s0,3,1,0;s0,3,1,0;s0,3,1,0;s0,0,1,0;q0,5;q1,5;q2,5;q3,5;q4,5;c0,0,0,5;");
        suppers("the lower five", last, 31, 1);
        last.supper(2);
        suppers("four of them, she has one", last, 27, 1);
        SleepersShop sixth = Checks.shop(Checks.times("s0,3,1,0;", 4) + "s0,0,1,0;s2,4,1,0;c0,5,0,5;c0,0,0,5;q4,5;");
        suppers("the sixth would only be woken", sixth, 0, 1);
    }

    private static void suppersFewestThenLowest() {
        SleepersShop x = Checks.shop("s1,0,1,0;s1,2,1,0;s1,4,1,0;q0,1;q1,2;q0,2;c0,0,2,5;c0,2,2,5;c0,4,2,5;");
        suppers("each would serve one", x, 0, 1);
        x.supper(0);
        suppers("the two others", x, 0, 1);
        x.undo();
        x.settle(1, 2);
        suppers("0 bars both", x, 1, 2);
        SleepersShop either = Checks.shop("s0,0,1,0;s0,0,1,0;s1,2,1,0;s1,2,1,0;q0,2;q1,3;c0,2,2,5;");
        suppers("3 is barred by 1, 2 by 0: the lowest of two", either, 1, 1);
        either.settle(0, 3);
        suppers("0 bars 2 and 3", either, 1, 1);
        SleepersShop less = Checks.shop("s0,0,1,0;s0,0,1,0;s0,4,1,0;s1,2,1,0;s1,2,1,0;q0,3;q1,3;q2,4;c0,2,2,5;");
        suppers("2 alone (as bits 4), not 0 and 1 (as bits 3)", less, 4, 1);
        SleepersShop most = Checks.shop("s0,0,1,0;s0,0,1,0;s0,4,1,0;s1,2,1,0;s1,1,1,0;q0,3;q1,3;q2,4;c0,2,2,5;c0,3,2,5;");
        suppers("0 and 1 serve two", most, 3, 2);
    }

    /** "of sets of STAFF that have none" */
    private static void suppersOfThoseThatHaveNone() {
        SleepersShop x = Checks.shop("s0,3,1,0;s0,3,1,0;s0,3,1,0;s0,0,1,0;q0,3;q1,3;q2,3;c0,0,0,5;");
        suppers("all three", x, 7, 1);
        x.supper(1);
        suppers("the two others", x, 5, 1);
        x.supper(0);
        suppers("the last", x, 4, 1);
        x.supper(2);
        suppers("none is left to be given one", x, 0, 1);
        x.supper(3);
        suppers("all have one", x, 0, 0);
    }

    /** "the next n (1 to 14) NIGHTS together" */
    private static void apartBounds() {
        SleepersShop x = Checks.shop("s1,4,1,0;s1,0,1,0;q0,1;c0,0,2,5;c13,0,2,5;c13,1,2,5;");
        apart("this night", x, 1, 1, 1);
        apart("nobody comes", x, 13, 1, 1);
        apart("with night 13", x, 14, 3, 1);
        for (int what = -1; what <= 2; what++) {
            due("apart(0, " + what + ")", x.apart(0, what), BAD);
            due("apart(15, " + what + ")", x.apart(15, what), BAD);
            due("apart(-1, " + what + ")", x.apart(-1, what), BAD);
        }
        due("apart(1, -1)", x.apart(1, -1), BAD);
        due("apart(14, 2)", x.apart(14, 2), BAD);
        x.pass(1);
        apart("from night 1 on nobody comes", x, 12, 0, 0);
        apart("night 13 is the thirteenth", x, 13, 2, 1);
        apart("and night 14", x, 14, 3, 1);
        x.pass(12);
        apart("on night 13", x, 1, 2, 1);
    }

    private static void apartOfNone() {
        SleepersShop x = Checks.shop(ONE + "c0,0,0,5;");
        apart("no quarrels", x, 1, 1, 0);
        SleepersShop y = Checks.shop(ONE + ONE + "q0,1;c0,0,0,5;");
        apart("making up gives no more", y, 14, 1, 0);
        y.settle(1, 0);
        apart("made up", y, 14, 1, 0);
        SleepersShop dog = Checks.shop("s0,3,1,0;s0,0,1,0;q0,1;c0,0,0,5;c1,0,0,5;h1;");
        apart("by dogs", dog, 14, 0, 0);
    }

    /** "numbered by the lower, then the higher of both", whatever was told or begun first. */
    private static void apartNumbers() {
        int[][] pairs = {{0, 4}, {0, 5}, {1, 4}, {1, 5}, {2, 3}, {3, 4}};
        for (int only = 0; only < pairs.length; only++) {
            int lower = pairs[only][0];
            int higher = pairs[only][1];
            // All are needed on other nights but these two; only she of higher number serves.
            StringBuilder text = new StringBuilder();
            for (int s = 0; s < 6; s++) {
                text.append(s == higher ? "s0,0,1,0;" : s == lower ? "s0,3,1,0;" : "s0,3,2,1;");
            }
            for (int i = pairs.length - 1; i >= 0; i--) {
                text.append("q").append(pairs[i][1]).append(",").append(pairs[i][0]).append(";");
            }
            SleepersShop x = Checks.shop(text + "c0,0,0,5;");
            apart("of " + lower + " and " + higher, x, 1, 1, 1 << only);
        }
        SleepersShop begun = Checks.shop("s0,3,1,0;s0,3,1,0;s0,0,1,0;c0,0,0,5;");
        begun.settle(2, 1);
        begun.settle(2, 0);
        begun.settle(1, 0);
        apart("0 bars 1 and 2: number 1 alone", begun, 1, 1, 2);
        begun.settle(1, 0);
        apart("without the quarrel of 0 and 1: both", begun, 1, 1, 3);
        begun.settle(0, 2);
        apart("one is left: it is number 0", begun, 1, 1, 1);
    }

    private static void apartFewestThenLowest() {
        SleepersShop all = Checks.shop("s0,3,1,0;s0,3,1,0;s0,3,1,0;s0,3,1,0;s0,3,1,0;s0,0,1,0;q0,5;q1,5;q2,5;q3,5;q4,5;q0,1;c0,0,0,5;");
        apart("0 bars 1 as long as they quarrel: 1 and 5 stay apart", all, 1, 1, 2 + 8 + 16 + 32);
        all.settle(0, 1);
        apart("all five", all, 1, 1, 31);
        SleepersShop either = Checks.shop("s0,3,2,1;s0,3,2,0;s0,0,1,0;q0,2;q1,2;c0,0,0,5;c1,0,0,5;");
        apart("the night of 1", either, 1, 1, 2);
        apart("both nights", either, 2, 2, 3);
        either.pass(1);
        apart("the night of 0", either, 1, 1, 1);
        SleepersShop lowest = Checks.shop("s0,0,1,0;s1,2,1,0;s1,4,1,0;q0,1;q0,2;q1,2;c0,2,2,5;c0,4,2,5;");
        apart("by two of them one is served, by all three two", lowest, 1, 2, 7);
        lowest.settle(1, 2);
        apart("both", lowest, 1, 2, 3);
        SleepersShop tie = Checks.shop("s0,0,1,0;s1,2,1,0;s1,2,1,0;q0,1;q0,2;c0,2,2,5;");
        apart("1 or 2: the lowest", tie, 1, 1, 1);
        SleepersShop fewest = Checks.shop("s0,3,1,0;s0,3,1,0;s0,0,1,0;s0,0,1,0;q0,2;q1,2;q1,3;c0,0,0,5;");
        apart("number 2 alone (as bits 4), not 0 and 1 (as bits 3)", fewest, 1, 1, 4);
    }

    /** More on one night may be fewer on all: who is woken tonight is AWAKE on the next ones. */
    private static void apartTogether() {
        SleepersShop x = Checks.shop("s0,3,1,0;s0,0,1,0;q0,1;c0,0,0,5;c0,0,1,5;c1,3,0,5;");
        apart("tonight", x, 1, 1, 1);
        apart("two nights", x, 2, 2, 1);
        SleepersShop y = Checks.shop("s0,3,1,0;s0,0,2,1;q0,1;c0,3,0,5;c1,0,3,5;c2,0,0,5;");
        apart("tonight she does not walk", y, 1, 1, 0);
        apart("tomorrow she does", y, 2, 2, 1);
        SleepersShop z = Checks.shop("s1,0,1,0;s2,0,1,0;q0,1;c0,0,0,9;c0,0,0,11;c1,1,3,5;c1,0,3,5;");
        apart("with or without", z, 1, 1, 0);
        apart("the poet is woken only if they walk together", z, 2, 3, 0);
    }

    /** "the lowest way (0 to 3) such that ... a CUSTOMER would be SERVED, and WAKE nobody" */
    private static void askEachWay() {
        int[] want = {0, 1, 1, 0};
        for (int kind = 0; kind <= 3; kind++) {
            for (int way = 0; way <= 3; way++) {
                SleepersShop x = Checks.shop("s" + kind + ",0,1,0;c0,0," + way + ",11;");
                due("ask of kind " + kind + " in way " + way, x.ask(0), want[kind]);
            }
            SleepersShop ten = Checks.shop("s" + kind + ",0,1,0;c0,0,0,10;");
            due("ask of kind " + kind + " with 10 pence", ten.ask(0), kind == 2 ? 1 : 0);
        }
        SleepersShop two = Checks.shop("s2,0,1,0;s0,0,1,0;c0,0,0,5;");
        due("he would be served plainly, but wake her", two.ask(0), 1);
        two.supper(0);
        due("the judge alone", two.ask(0), 0);
        SleepersShop barred = Checks.shop("s0,3,1,0;s2,0,1,0;s0,0,1,0;q0,1;c0,0,1,5;");
        due("the poet is barred: plainly", barred.ask(0), 0);
        due("he asks as before", barred.customer(0, 2), 1);
        due("and wakes as before", barred.woken(), 4);
    }

    /** Those ahead of him come first on this night, in their own ways. */
    private static void askBehindOthers() {
        SleepersShop x = Checks.shop("s2,0,1,0;s0,0,1,0;c0,0,0,5;c0,0,1,5;c0,0,0,5;c0,1,2,5;");
        due("the first", x.ask(0), 1);
        due("the poet is woken, the judge is left", x.ask(1), 0);
        due("both are woken", x.ask(2), NONE);
        due("both are woken, the fourth", x.ask(3), NONE);
        SleepersShop y = Checks.shop("s2,0,1,0;c0,0,1,5;c0,0,0,5;");
        due("who comes behind does not count", y.ask(0), 1);
        due("she is not woken by the first", y.ask(1), 1);
        SleepersShop other = Checks.shop("s2,0,1,0;c1,0,0,5;c0,0,1,5;");
        due("who comes on another night does not count", other.ask(1), 1);
        due("nor is he asked", other.ask(0), NONE);
        other.pass(1);
        due("on his night", other.ask(0), 1);
        due("the other not", other.ask(1), NONE);
        other.pass(13);
        due("on night 14 the other again", other.ask(1), 1);
    }

    private static void askNone() {
        SleepersShop x = Checks.shop("s0,0,2,0;c0,2,3,5;c0,0,3,5;c1,0,3,5;h3;");
        due("by the dog", x.ask(1), NONE);
        due("he does not come", x.ask(2), NONE);
        x.pass(1);
        due("nobody WALKS", x.ask(2), NONE);
        x.pass(13);
        due("night 14: nobody serves it", x.ask(0), NONE);
        due("night 14", x.ask(1), 0);
        x.supper(0);
        due("she has a SUPPER", x.ask(1), NONE);
        for (int c : new int[] {-1, 3, 10, Checks.MIN, Checks.MAX}) {
            due("ask(" + c + ")", x.ask(c), BAD);
        }
        SleepersShop awake = Checks.shop("s0,0,1,0;c0,0,1,5;c1,0,3,5;");
        awake.pass(1);
        due("she is AWAKE", awake.ask(1), NONE);
        awake.lull(0);
        due("put to sleep", awake.ask(1), 0);
    }
}
