/** For each promise of the document, calls with the answers that were worked out by hand. */
public final class PromiseTests {
    private static final int BAD = -1, NO = -2, FULL = -3, NONE = -4;
    private static final String FIRST = "s0,1,2,0;s1,2,3,1;s2,1,1,0;s3,4,2,1;s0,2,4,2;q0,2;q1,3;"
        + "c0,1,0,12;c0,2,1,5;c1,4,2,30;c1,1,1,8;c2,2,0,9;c3,4,3,20;c4,1,2,15;h5;";
    private static final String ONE = "s0,0,1,0;";

    private static int checks = 0;
    private static int wrong = 0;

    private static void due(int promise, String what, int got, int want) {
        checks++;
        if (got != want) {
            wrong++;
            System.out.println("promise " + promise + ": " + what + " answered " + got + ", due is " + want);
        }
    }

    private static void tell(SleepersShop x, String text) {
        x.wipe();
        for (int i = 0; i < text.length(); i++) {
            x.write(text.charAt(i));
        }
    }

    /** A shop by the text, which must be one that can be laid. */
    private static SleepersShop shop(String text) {
        SleepersShop x = new SleepersShop();
        tell(x, text);
        due(5, "lay() of " + text, x.lay() > 0 ? 1 : 0, 1);
        return x;
    }

    private static int faultOf(String text) {
        SleepersShop x = new SleepersShop();
        tell(x, text);
        return x.fault();
    }

    private static void fault(String text, int want) {
        due(4, "fault() of " + text, faultOf(text), want);
    }

    /** All that count() tells, and who is how: to see that nothing changed. */
    private static String whole(SleepersShop x) {
        StringBuilder all = new StringBuilder();
        for (int what = 0; what <= 11; what++) {
            all.append(x.count(what)).append(' ');
        }
        int staff = x.count(0);
        for (int s = 0; s < staff; s++) {
            for (int what = 0; what <= 6; what++) {
                all.append(x.staff(s, what)).append(' ');
            }
            for (int t = 0; t < staff; t++) {
                all.append(x.quarrel(s, t)).append(' ');
            }
            all.append(x.law(s, 0)).append(' ');
        }
        return all.toString();
    }

    private static void same(int promise, String what, String got, String want) {
        due(promise, what + ": as before", got.equals(want) ? 1 : 0, 1);
    }

    public static void main(String[] args) {
        newObject();
        write();
        wipe();
        fault();
        lay();
        staff();
        walks();
        customer();
        quarrel();
        woken();
        wakes();
        pass();
        supper();
        settle();
        lull();
        undo();
        behind();
        ham();
        suppers();
        apart();
        ask();
        see();
        forget();
        law();
        did();
        dogs();
        year();
        keep();
        back();
        count();
        System.out.println(checks + " answers, " + wrong + " not as due");
        if (wrong != 0) {
            System.exit(1);
        }
    }

    private static void newObject() {
        SleepersShop x = new SleepersShop();
        int[] counts = {5, 7, 2, 0, 0, 0, 0, 0, 0, 0, 0, 0};
        for (int what = 0; what < counts.length; what++) {
            due(1, "count(" + what + ")", x.count(what), counts[what]);
        }
        int[][] staff = {{0, 1, 2, 0}, {1, 2, 3, 1}, {2, 1, 1, 0}, {3, 4, 2, 1}, {0, 2, 4, 2}};
        for (int s = 0; s < staff.length; s++) {
            for (int what = 0; what < 4; what++) {
                due(1, "staff(" + s + ", " + what + ")", x.staff(s, what), staff[s][what]);
            }
        }
        int[][] customers = {{0, 1, 0, 12}, {0, 2, 1, 5}, {1, 4, 2, 30}, {1, 1, 1, 8}, {2, 2, 0, 9},
            {3, 4, 3, 20}, {4, 1, 2, 15}};
        for (int c = 0; c < customers.length; c++) {
            for (int what = 0; what < 4; what++) {
                due(1, "customer(" + c + ", " + what + ")", x.customer(c, what), customers[c][what]);
            }
        }
        for (int a = 0; a < 5; a++) {
            for (int b = a + 1; b < 5; b++) {
                int want = a == 0 && b == 2 || a == 1 && b == 3 ? 1 : 0;
                due(1, "quarrel(" + a + ", " + b + ")", x.quarrel(a, b), want);
            }
        }
        due(1, "fault()", x.fault(), NONE);
        due(1, "undo()", x.undo(), NO);
        due(1, "back()", x.back(), NO);
        due(1, "lay() of the empty text", x.lay(), NO);
        x.pass(5);
        due(1, "the dog of night 5", x.count(4), 0);
        due(1, "two objects are two", new SleepersShop().count(3), 0);
        SleepersShop told = shop(FIRST);
        told.wipe();
        same(1, "the first shop told", whole(told), whole(new SleepersShop()));
        due(1, "BAD", SleepersShop.BAD, -1);
        due(1, "NO", SleepersShop.NO, -2);
        due(1, "FULL", SleepersShop.FULL, -3);
        due(1, "NONE", SleepersShop.NONE, -4);
    }

    private static void write() {
        SleepersShop x = new SleepersShop();
        int[] bad = {31, 127, 0, -1, 128, Integer.MAX_VALUE, Integer.MIN_VALUE};
        for (int letter : bad) {
            due(2, "write(" + letter + ")", x.write(letter), BAD);
        }
        due(2, "write(32)", x.write(32), 1);
        due(2, "write(126)", x.write(126), 2);
        for (int i = 3; i <= 200; i++) {
            due(2, "write as letter " + i, x.write('s'), i);
        }
        due(2, "write(115) as letter 201", x.write('s'), FULL);
        due(2, "write(31) to a full text", x.write(31), BAD);
        due(2, "the length of a full text", x.count(11), 200);
        SleepersShop y = new SleepersShop();
        tell(y, ONE);
        due(2, "letters behind one another", y.lay(), 1);
        y.write('h');
        y.write('1');
        y.write(';');
        due(2, "letters behind a text that is there", y.fault(), NONE);
        y.lay();
        due(2, "the dog told behind", y.count(4), 0);
    }

    private static void wipe() {
        SleepersShop x = new SleepersShop();
        due(3, "wipe() at first", x.wipe(), 0);
        tell(x, "x1");
        due(3, "fault ahead of wipe()", x.fault(), 0);
        due(3, "wipe()", x.wipe(), 2);
        due(3, "count(11)", x.count(11), 0);
        due(3, "fault behind wipe()", x.fault(), NONE);
        due(3, "wipe() once more", x.wipe(), 0);
        tell(x, "s0,0,1,0;");
        tell(x, "s0,0,1,");
        due(3, "letters wiped do not end an item", x.fault(), 0);
        due(3, "the shop stays", x.count(0), 5);
    }

    private static void fault() {
        fault("", NONE);
        fault(FIRST, NONE);
        fault("h3;", NONE);
        faultOfStaff();
        faultOfQuarrels();
        faultOfCustomers();
        faultOfDogs();
        fault(";", 0);
        fault("x1;", 0);
        fault("S0,0,1,0;", 0);
        fault(ONE + ";", 9);
        fault(ONE + " ", 9);
        fault(ONE + "h", 9);
        fault(ONE + "h1;h", 12);
        fault(ONE + "h0;x", 9);
        fault("h1;" + ONE + "c0,0,0,0;h99;", 12);
    }

    private static void faultOfStaff() {
        fault("s0,0,1,0;", NONE);
        fault("s3,5,10,9;", NONE);
        fault("s03,05,01,09;", NONE);
        fault("s00,00,10,00;", NONE);
        String[] faulty = {"s4,0,1,0;", "s0,6,1,0;", "s0,0,0,0;", "s0,0,11,0;", "s0,0,1,10;", "s0,0,1;",
            "s0,0,1,0,0;", "s0,0,1,0", "s0,0,1,000;", "s0,,1,0;", "s,0,1,0;", "s 0,0,1,0;", "s0,0,1,0,;",
            "s-1,0,1,0;", "s0;0,1,0;", "s", "s0", "s0,0,1,", "s;", "s0,0,1,0 ;", "s0.0,1,0;", "s0,0,1,0,",
            "s99,0,1,0;", "s0,0,1,a;", "s0,0,1,/;", "s0,0,1,:;", "ss0,0,1,0;"};
        for (String text : faulty) {
            fault(text, 0);
            fault(ONE + text, 9);
        }
        fault(ONE + ONE + ONE + ONE + ONE + ONE, NONE);
        fault(ONE + ONE + ONE + ONE + ONE + ONE + ONE, 54);
    }

    private static void faultOfQuarrels() {
        fault("q0,1;", 0);
        fault(ONE + "q0,1;", 9);
        fault(ONE + "q0,1;" + ONE, 9);
        fault(ONE + ONE + "q0,1;", NONE);
        fault(ONE + ONE + "q1,00;", NONE);
        fault(ONE + ONE + "q0,0;", 18);
        fault(ONE + ONE + "q1,1;", 18);
        fault(ONE + ONE + "q2,0;", 18);
        fault(ONE + ONE + "q0,2;", 18);
        fault(ONE + ONE + "q0;", 18);
        fault(ONE + ONE + "q0,1,1;", 18);
        fault(ONE + ONE + "q0,1", 18);
        fault(ONE + ONE + "q0,1;q1,0;q0,1;", NONE);
        String five = ONE + ONE + ONE + ONE + ONE;
        String six = "q0,1;q0,2;q0,3;q1,2;q1,3;q2,3;";
        fault(five + six, NONE);
        fault(five + six + "q0,4;", 75);
        fault(five + six + "q3,2;q0,4;", NONE);
        fault(five + six + "q3,2;q0,4;q2,3;", 85);
    }

    private static void faultOfCustomers() {
        fault("c0,0,0,1;", NONE);
        fault("c13,5,3,60;", NONE);
        fault("c00,00,00,01;", NONE);
        String[] faulty = {"c14,0,0,1;", "c0,6,0,1;", "c0,0,4,1;", "c0,0,0,0;", "c0,0,0,61;", "c0,0,0;",
            "c0,0,0,1,1;", "c0,0,0,100;", "c99,0,0,1;", "c0,0,0,1", "c;"};
        for (String text : faulty) {
            fault(text, 0);
        }
        String five = "c0,0,0,1;c0,0,0,1;c0,0,0,1;c0,0,0,1;c0,0,0,1;";
        fault(five + five, NONE);
        fault(five + five + "c0,0,0,1;", 90);
    }

    private static void faultOfDogs() {
        fault("h1;", NONE);
        fault("h10;h01;", NONE);
        fault("h0;", 0);
        fault("h11;", 0);
        fault("h;", 0);
        fault("h1,1;", 0);
        fault("h1", 0);
        fault("h001;", 0);
    }

    private static void lay() {
        SleepersShop x = new SleepersShop();
        x.pass(3);
        x.supper(0);
        x.see(0, 1, true);
        x.keep();
        String before = whole(x);
        due(5, "lay() of nothing", x.lay(), NO);
        same(5, "lay() of nothing", whole(x), before);
        tell(x, "h3;c0,0,0,1;");
        before = whole(x);
        due(5, "lay() without staff", x.lay(), NO);
        same(5, "lay() without staff", whole(x), before);
        layFaulty();
        tell(x, "s2,3,4,9;s1,5,10,0;q1,0;c2,3,1,60;");
        due(5, "lay()", x.lay(), 2);
        int[] counts = {2, 1, 1, 0, 1, 0, 0, 0, 0, 0, 0, 34};
        for (int what = 0; what < counts.length; what++) {
            due(5, "count(" + what + ") of what is laid", x.count(what), counts[what]);
        }
        due(5, "undo() behind lay()", x.undo(), NO);
        due(5, "back() behind lay()", x.back(), NO);
        due(5, "the skill of 0", x.staff(0, 1), 3);
        due(5, "the every of 1", x.staff(1, 2), 10);
        due(5, "no supper", x.staff(0, 6), 0);
        due(5, "no third", x.staff(2, 0), BAD);
        due(5, "no second customer", x.customer(1, 0), BAD);
        due(5, "lay() once more", x.lay(), 2);
        layForgets();
    }

    private static void layFaulty() {
        SleepersShop x = new SleepersShop();
        x.pass(3);
        x.supper(0);
        tell(x, ONE + "h0;");
        String before = whole(x);
        due(5, "lay() with a fault", x.lay(), NO);
        same(5, "lay() with a fault", whole(x), before);
        due(5, "fault() changes nothing", x.fault(), 9);
        same(5, "fault()", whole(x), before);
    }

    private static void layForgets() {
        SleepersShop x = shop("s0,0,1,0;s1,0,1,0;c0,0,1,60;q0,1;h9;");
        x.pass(9);
        x.settle(0, 1);
        x.lay();
        due(5, "the quarrel is as told", x.quarrel(0, 1), 1);
        due(5, "night 0", x.count(3), 0);
        tell(x, "s0,0,1,0;s1,0,1,0;c0,0,1,60;");
        x.lay();
        due(5, "no quarrel of the shop ahead", x.count(2), 0);
        due(5, "no dog of the shop ahead", x.count(4), 2);
        x.pass(1);
        due(5, "AWAKE", x.staff(0, 5), 3);
        due(5, "till", x.count(5), 55);
        due(5, "drawer", x.count(6), 5);
        x.lay();
        due(5, "nobody AWAKE", x.staff(0, 5), 0);
        due(5, "TILL 0", x.count(5), 0);
        due(5, "DRAWER 0", x.count(6), 0);
        tell(x, "s0,2,1,0;c0,0,3,60;");
        x.lay();
        due(5, "nobody serves as in the shop ahead", x.did(0), 0);
    }

    private static void staff() {
        SleepersShop x = shop("s3,5,10,9;s1,0,2,0;s2,0,1,0;c0,0,0,5;");
        int[] first = {3, 5, 10, 9, 0, 0, 0};
        int[] last = {2, 0, 1, 0, 1, 0, 0};
        for (int what = 0; what < 7; what++) {
            due(6, "staff(0, " + what + ")", x.staff(0, what), first[what]);
            due(6, "staff(2, " + what + ")", x.staff(2, what), last[what]);
        }
        due(6, "staff(-1, 0)", x.staff(-1, 0), BAD);
        due(6, "staff(3, 0)", x.staff(3, 0), BAD);
        due(6, "staff(0, -1)", x.staff(0, -1), BAD);
        due(6, "staff(0, 7)", x.staff(0, 7), BAD);
        due(6, "staff(MAX, MIN)", x.staff(Integer.MAX_VALUE, Integer.MIN_VALUE), BAD);
        x.supper(2);
        due(6, "with a supper", x.staff(2, 6), 1);
        due(6, "with a supper she does not walk", x.staff(2, 4), 0);
        due(6, "another without", x.staff(1, 6), 0);
    }

    private static void walks() {
        SleepersShop x = shop("s0,0,3,7;s0,0,1,9;s0,0,2,0;h4;");
        for (int n = 0; n < 30; n++) {
            boolean dog = n % 4 == 0;
            due(6, "E 3, O 7 on night " + n, x.staff(0, 4), !dog && n % 3 == 1 ? 1 : 0);
            due(6, "E 1, O 9 on night " + n, x.staff(1, 4), dog ? 0 : 1);
            due(6, "E 2, O 0 on night " + n, x.staff(2, 4), !dog && n % 2 == 0 ? 1 : 0);
            x.pass(1);
        }
        SleepersShop several = shop(ONE + "h1;h3;h2;");
        several.pass(3);
        due(6, "the last dog counts", several.staff(0, 4), 1);
        several.pass(1);
        due(6, "on its nights", several.staff(0, 4), 0);
        SleepersShop y = shop("s0,0,1,0;s0,0,1,0;s0,0,1,0;s0,0,1,0;q1,0;q1,2;q3,2;");
        int[] chain = {1, 0, 1, 0};
        for (int s = 0; s < 4; s++) {
            due(6, "quarrels one behind the other, " + s, y.staff(s, 4), chain[s]);
        }
        y.supper(0);
        int[] fed = {0, 1, 0, 1};
        for (int s = 0; s < 4; s++) {
            due(6, "the first with a supper, " + s, y.staff(s, 4), fed[s]);
        }
    }

    private static void customer() {
        SleepersShop x = shop("s1,5,1,0;s3,0,1,0;c0,0,3,60;c0,1,0,1;c13,2,2,11;c0,2,3,5;");
        int[][] want = {{0, 0, 3, 60, 1, 0}, {0, 1, 0, 1, 1, 1}, {13, 2, 2, 11, 0, NONE}, {0, 2, 3, 5, 1, NONE}};
        for (int c = 0; c < 4; c++) {
            for (int what = 0; what < 6; what++) {
                due(7, "customer(" + c + ", " + what + ")", x.customer(c, what), want[c][what]);
            }
        }
        due(7, "customer(-1, 0)", x.customer(-1, 0), BAD);
        due(7, "customer(4, 0)", x.customer(4, 0), BAD);
        due(7, "customer(0, -1)", x.customer(0, -1), BAD);
        due(7, "customer(0, 6)", x.customer(0, 6), BAD);
        due(7, "customer(MIN, 5)", x.customer(Integer.MIN_VALUE, 5), BAD);
        x.pass(13);
        due(7, "on night 13", x.customer(2, 4), 1);
        due(7, "not on night 13", x.customer(0, 4), 0);
        due(7, "nobody serves who does not come", x.customer(0, 5), NONE);
        x.pass(1);
        due(7, "again on night 14", x.customer(0, 4), 1);
        due(7, "served on night 14", x.customer(0, 5), 0);
        SleepersShop none = shop(ONE);
        due(7, "no customers", none.customer(0, 0), BAD);
        served();
    }

    private static void served() {
        SleepersShop x = shop("s0,0,1,0;s2,0,1,0;s1,0,1,0;c0,0,1,5;c0,1,0,5;c0,0,2,5;c0,1,0,11;c0,0,3,5;");
        due(7, "in rhyme: by the next one", x.customer(0, 5), 1);
        due(7, "plainly: the poet wakes, too", x.customer(1, 5), 2);
        due(7, "as a mother: by the grocer", x.customer(2, 5), 2);
        due(7, "plainly with 11 pence: by none", x.customer(3, 5), NONE);
        due(7, "in white: none is left", x.customer(4, 5), NONE);
        SleepersShop y = shop("s0,5,1,0;c0,5,3,1;c0,0,3,1;c0,1,3,1;c0,4,3,1;");
        int[] by = {0, 0, NONE, NONE};
        for (int c = 0; c < 4; c++) {
            due(7, "skill 5, customer " + c, y.customer(c, 5), by[c]);
        }
    }

    private static void quarrel() {
        SleepersShop x = shop(ONE + ONE + ONE + "q2,0;q0,1;q1,0;");
        due(8, "quarrel(0, 2)", x.quarrel(0, 2), 1);
        due(8, "quarrel(2, 0)", x.quarrel(2, 0), 1);
        due(8, "quarrel(0, 1)", x.quarrel(0, 1), 0);
        due(8, "quarrel(1, 2)", x.quarrel(1, 2), 0);
        int[][] bad = {{0, 0}, {2, 2}, {3, 0}, {0, 3}, {-1, 0}, {0, -1}, {3, 3}, {5, 4}};
        for (int[] two : bad) {
            due(8, "quarrel(" + two[0] + ", " + two[1] + ")", x.quarrel(two[0], two[1]), BAD);
        }
        SleepersShop y = shop(ONE + ONE + ONE + ONE + ONE + ONE + "q5,4;");
        due(8, "quarrel(4, 5)", y.quarrel(4, 5), 1);
        due(8, "quarrel(3, 5)", y.quarrel(3, 5), 0);
    }

    private static void woken() {
        SleepersShop x = shop("s0,0,1,0;s2,0,1,0;s0,1,1,0;c0,0,1,5;c1,1,0,5;c1,1,1,5;");
        due(9, "woken() on night 0", x.woken(), 1);
        due(9, "woken() changes nothing", x.staff(0, 5), 0);
        x.pass(1);
        due(9, "woken() on night 1", x.woken(), 6);
        x.pass(1);
        due(9, "woken() on night 2", x.woken(), 0);
        SleepersShop y = shop("s0,0,1,0;s0,0,1,0;c0,0,1,5;q0,1;");
        due(9, "who is woken walks all the same: the other does not", y.woken(), 1);
        due(9, "and he has a ham", y.customer(0, 5), NONE);
        y.supper(0);
        due(9, "with a supper it is the other", y.woken(), 2);
    }

    /** Each kind by each way, with 10 and with 11 pence. */
    private static void wakes() {
        boolean[][] always = {{false, true, false, false}, {false, false, false, false},
            {true, false, false, false}, {false, false, true, false}};
        for (int kind = 0; kind < 4; kind++) {
            for (int way = 0; way < 4; way++) {
                for (int pence = 10; pence <= 11; pence++) {
                    boolean wakes = always[kind][way] || kind == 1 && way == 0 && pence > 10;
                    String text = "s" + kind + ",0,1,0;c0,0," + way + "," + pence + ";";
                    SleepersShop x = shop(text);
                    due(9, "woken() of " + text, x.woken(), wakes ? 1 : 0);
                    due(7, "customer(0, 5) of " + text, x.customer(0, 5), wakes ? NONE : 0);
                    due(23, "did(0) of " + text, x.did(0), wakes ? 0 : 1);
                    x.pass(1);
                    int paid = wakes || way == 3 ? 0 : pence;
                    due(10, "till of " + text, x.count(5), paid);
                    due(10, "hams of " + text, x.count(7), wakes ? 1 : 0);
                }
            }
        }
    }

    private static void pass() {
        SleepersShop x = shop("s0,0,1,0;c0,0,1,5;c4,0,0,60;c4,1,2,12;c4,0,0,6;c4,0,3,50;");
        due(10, "pass(0)", x.pass(0), BAD);
        due(10, "pass(15)", x.pass(15), BAD);
        due(10, "pass(-1)", x.pass(-1), BAD);
        due(10, "pass(MIN)", x.pass(Integer.MIN_VALUE), BAD);
        due(10, "nothing passed", x.count(9), 0);
        due(10, "pass(1)", x.pass(1), 1);
        int[] awake = {3, 2, 1, 0};
        for (int n = 1; n <= 4; n++) {
            due(10, "AWAKE on night " + n, x.staff(0, 5), awake[n - 1]);
            due(10, "WALKS on night " + n, x.staff(0, 4), n == 4 ? 1 : 0);
            if (n == 4) {
                x.supper(0);
                x.undo();
            }
            x.pass(1);
        }
        due(10, "till", x.count(5), 55 + 11 + 6);
        due(10, "drawer: of each one's pence, cut", x.count(6), 5 + 1 + 0);
        due(10, "hams", x.count(7), 1);
        x.supper(0);
        due(10, "pass(14)", x.pass(14), 19);
        due(10, "nobody has a supper", x.staff(0, 6), 0);
        due(10, "till then", x.count(5), 144);
        due(10, "hams then", x.count(7), 2);
        parts();
        SleepersShop y = shop("s0,0,1,0;c0,0,1,5;c2,0,3,5;");
        y.pass(14);
        due(10, "behind 14", y.staff(0, 5), 0);
        due(10, "hams behind 14", y.count(7), 2);
        for (int i = 2; i <= 40; i++) {
            due(10, "pass(14)", y.pass(14), 14 * i);
        }
    }

    /** 12 pence are the first with one part for the drawer, then 23, 34, 45 and 56. */
    private static void parts() {
        for (int pence = 1; pence <= 60; pence++) {
            int drawer = pence < 12 ? 0 : pence < 23 ? 1 : pence < 34 ? 2 : pence < 45 ? 3 : pence < 56 ? 4 : 5;
            SleepersShop x = shop("s0,0,1,0;c0,0,0," + pence + ";");
            x.pass(1);
            due(10, "drawer of " + pence, x.count(6), drawer);
            due(10, "till of " + pence, x.count(5), pence - drawer);
        }
    }

    private static void supper() {
        SleepersShop x = shop(ONE + ONE + "c0,0,0,10;");
        due(11, "supper(-1)", x.supper(-1), BAD);
        due(11, "supper(2)", x.supper(2), BAD);
        due(11, "supper(1)", x.supper(1), 1);
        due(11, "supper(1) once more", x.supper(1), NO);
        due(11, "one can be undone", x.count(9), 1);
        due(11, "served by 0", x.customer(0, 5), 0);
        due(11, "supper(0)", x.supper(0), 2);
        due(11, "served by none", x.customer(0, 5), NONE);
        x.pass(1);
        due(11, "on the next night once more", x.supper(1), 1);
        SleepersShop y = shop("s0,0,1,0;c0,0,1,5;");
        y.pass(1);
        due(11, "one AWAKE can have one", y.supper(0), 1);
        y.pass(1);
        due(11, "and is AWAKE for one less", y.staff(0, 5), 2);
    }

    private static void settle() {
        SleepersShop x = shop(ONE + ONE + ONE + ONE + ONE + "q0,1;q0,2;q0,3;q1,2;q1,3;");
        int[][] bad = {{0, 0}, {4, 4}, {5, 0}, {0, 5}, {-1, 1}, {1, -1}};
        for (int[] two : bad) {
            due(12, "settle(" + two[0] + ", " + two[1] + ")", x.settle(two[0], two[1]), BAD);
        }
        due(12, "settle(3, 2) begins", x.settle(3, 2), 1);
        due(12, "they quarrel", x.quarrel(2, 3), 1);
        due(12, "settle(0, 4)", x.settle(0, 4), FULL);
        due(12, "settle(5, 4)", x.settle(5, 4), BAD);
        due(12, "they do not", x.quarrel(0, 4), 0);
        due(12, "one can be undone", x.count(9), 1);
        due(12, "settle(1, 0) makes up", x.settle(1, 0), 0);
        due(12, "five", x.count(2), 5);
        due(12, "1 is still barred by none but 0", x.staff(1, 4), 1);
        due(12, "settle(0, 4) now", x.settle(0, 4), 1);
        due(12, "4 does not walk", x.staff(4, 4), 0);
        x.pass(1);
        due(12, "it stays by night", x.quarrel(4, 0), 1);
    }

    private static void lull() {
        SleepersShop x = shop("s0,0,1,0;s0,2,1,0;c0,0,1,5;c2,2,1,5;");
        due(13, "lull(-1)", x.lull(-1), BAD);
        due(13, "lull(2)", x.lull(2), BAD);
        due(13, "lull(0), not AWAKE", x.lull(0), NO);
        due(13, "nothing is undone by it", x.count(9), 0);
        x.pass(2);
        due(13, "lull(1), woken tonight only", x.lull(1), NO);
        due(13, "lull(0)", x.lull(0), 2);
        due(13, "she walks", x.staff(0, 4), 1);
        due(13, "lull(0) once more", x.lull(0), NO);
        x.pass(1);
        due(13, "0 stays asleep", x.staff(0, 5), 0);
        due(13, "lull(1)", x.lull(1), 3);
    }

    private static void undo() {
        SleepersShop x = shop("s0,0,1,0;s2,0,1,0;c0,0,1,60;c1,0,0,9;c3,5,0,1;");
        due(14, "undo() of nothing", x.undo(), NO);
        String first = whole(x);
        x.pass(2);
        x.pass(14);
        due(14, "undo() of 14 nights at one time", x.undo(), 1);
        due(14, "two nights have gone by", x.count(3), 2);
        due(14, "till", x.count(5), 55);
        due(14, "hams", x.count(7), 1);
        x.lull(0);
        due(14, "lulled", x.staff(0, 5), 0);
        due(14, "undo() of a putting", x.undo(), 1);
        due(14, "AWAKE again", x.staff(0, 5), 2);
        due(14, "undo() of the first", x.undo(), 0);
        same(14, "undo() of the first", whole(x), first);
        due(14, "undo() of no more", x.undo(), NO);
        x.supper(0);
        x.settle(0, 1);
        due(14, "undo() of a quarrel", x.undo(), 1);
        due(14, "made up", x.quarrel(0, 1), 0);
        due(14, "the supper stays", x.staff(0, 6), 1);
        due(14, "undo() of a supper", x.undo(), 0);
        due(14, "no supper", x.staff(0, 6), 0);
        for (int i = 0; i < 11; i++) {
            x.pass(1);
        }
        due(14, "eight can be undone", x.count(9), 8);
        for (int i = 7; i >= 0; i--) {
            due(14, "undo() of eight", x.undo(), i);
            due(14, "nights gone by then", x.count(3), i + 3);
        }
        due(14, "the ninth", x.undo(), NO);
        due(14, "three nights stay", x.count(3), 3);
        undoLeaves();
    }

    private static void undoLeaves() {
        SleepersShop x = shop(ONE + ONE);
        x.see(0, 0, true);
        x.pass(1);
        x.see(0, 1, true);
        x.keep();
        x.write('z');
        x.undo();
        due(14, "SEEN stays", x.count(8), 2);
        due(14, "KEPT stays", x.count(10), 1);
        due(14, "THE TEXT stays", x.count(11), 19);
        x.supper(1);
        x.supper(1);
        x.lull(0);
        x.pass(0);
        x.settle(0, 0);
        due(14, "what was refused is nothing", x.count(9), 1);
    }

    private static void behind() {
        SleepersShop x = shop("s0,0,1,0;c0,0,0,60;c1,0,1,12;c2,0,0,7;c13,0,0,12;");
        int[][] due = {{0, 0, 0, 0}, {1, 55, 5, 0}, {2, 55, 5, 1}, {3, 55, 5, 2}, {14, 66, 6, 2}, {28, 132, 12, 4}};
        for (int[] one : due) {
            for (int what = 0; what < 3; what++) {
                due(15, "behind(" + one[0] + ", " + what + ")", x.behind(one[0], what), one[what + 1]);
            }
        }
        due(15, "behind(-1, 0)", x.behind(-1, 0), BAD);
        due(15, "behind(29, 0)", x.behind(29, 0), BAD);
        due(15, "behind(0, -1)", x.behind(0, -1), BAD);
        due(15, "behind(0, 3)", x.behind(0, 3), BAD);
        due(15, "no night has gone by", x.count(3), 0);
        due(15, "nothing to undo", x.count(9), 0);
        x.pass(2);
        due(15, "behind(0, 2)", x.behind(0, 2), 1);
        due(15, "behind(0, 0)", x.behind(0, 0), 55);
        due(15, "behind(1, 2)", x.behind(1, 2), 2);
        x.lull(0);
        due(15, "lulled: behind(1, 0)", x.behind(1, 0), 62);
        x.supper(0);
        due(15, "with a supper: behind(1, 0)", x.behind(1, 0), 55);
        due(15, "it is had only once: behind(12, 0)", x.behind(12, 0), 66);
    }

    private static void ham() {
        SleepersShop x = shop("s0,0,1,0;c0,0,0,5;c3,0,0,5;c3,1,1,5;c3,5,1,5;c9,0,0,5;");
        due(16, "ham(0)", x.ham(0), 4);
        due(16, "ham(1)", x.ham(1), 2);
        due(16, "ham(-1)", x.ham(-1), BAD);
        due(16, "ham(2)", x.ham(2), BAD);
        x.pass(3);
        due(16, "ham(0) on the night itself", x.ham(0), 1);
        x.supper(0);
        due(16, "with a supper", x.ham(1), 1);
        x.pass(1);
        due(16, "hams so far do not count", x.ham(0), 14);
        due(16, "ham(1)", x.ham(1), 2);
        SleepersShop y = shop("s0,0,1,0;c0,0,0,5;");
        due(16, "no ham: ham(0)", y.ham(0), NONE);
        due(16, "no ham: ham(1)", y.ham(1), NONE);
        due(16, "no ham: ham(2)", y.ham(2), BAD);
        SleepersShop z = shop("s0,0,9,0;s0,0,9,1;c0,0,0,5;");
        due(16, "behind 15", z.ham(0), 15);
        SleepersShop far = shop("s0,0,1,0;c13,0,0,5;h9;");
        due(16, "behind 28", far.ham(0), 28);
        far.pass(1);
        due(16, "behind 27", far.ham(0), 27);
        SleepersShop farther = shop("s0,0,1,0;c1,0,0,5;h10;");
        due(16, "night 70 + 1 is no night of the dog", farther.ham(0), NONE);
    }

    private static void suppers() {
        SleepersShop x = shop("s0,0,1,0;s1,0,1,0;s2,0,1,0;q0,1;q0,2;c0,0,1,5;c0,0,1,5;");
        due(17, "suppers(0)", x.suppers(0), 1);
        due(17, "suppers(1)", x.suppers(1), 2);
        due(17, "suppers(-1)", x.suppers(-1), BAD);
        due(17, "suppers(2)", x.suppers(2), BAD);
        due(17, "nobody has one", x.staff(0, 6), 0);
        x.supper(0);
        due(17, "she has one: suppers(0)", x.suppers(0), 0);
        due(17, "she has one: suppers(1)", x.suppers(1), 2);
        x.supper(1);
        due(17, "the third serves", x.suppers(1), 2);
        x.supper(2);
        due(17, "all have one: suppers(0)", x.suppers(0), 0);
        due(17, "all have one: suppers(1)", x.suppers(1), 0);
        SleepersShop y = shop("s0,0,1,0;s0,1,1,0;s0,2,1,0;q0,2;q1,2;c0,2,0,5;c0,3,0,5;");
        due(17, "two suppers are needed: suppers(0)", y.suppers(0), 3);
        due(17, "two suppers are needed: suppers(1)", y.suppers(1), 2);
        y.supper(1);
        due(17, "one more", y.suppers(0), 1);
        SleepersShop z = shop("s1,0,1,0;s2,0,1,0;s0,0,1,0;q0,1;q0,2;q1,2;c0,0,2,5;");
        due(17, "none is needed", z.suppers(0), 0);
        SleepersShop less = shop("s0,0,1,0;s0,0,1,0;s1,0,1,0;q0,2;q1,2;c0,0,1,5;");
        due(17, "two by need, for one", less.suppers(0), 3);
        SleepersShop fewest = shop("s0,3,1,0;s0,3,1,0;s0,3,1,0;s1,0,1,0;q0,1;q0,2;q2,3;c0,0,1,5;");
        due(17, "0 bars 2, so 3 walks", fewest.suppers(0), 0);
        fewest.supper(0);
        due(17, "0 has a supper: 2 bars 3", fewest.suppers(0), 4);
        SleepersShop lowest = shop("s0,3,1,0;s0,4,1,0;s1,0,1,0;q0,1;q1,2;c0,0,0,5;");
        due(17, "barred by 0, 1 bars none", lowest.suppers(0), 0);
        SleepersShop dog = shop(ONE + "c0,0,0,5;h1;");
        due(17, "by a dog: suppers(0)", dog.suppers(0), 0);
        due(17, "by a dog: suppers(1)", dog.suppers(1), 0);
        suppersOfSeveral();
    }

    /** Of 1 and 2 either would do as well alone; 3 is more, though lower sets hold it. */
    private static void suppersOfSeveral() {
        SleepersShop x = shop("s0,0,1,0;s0,0,1,0;s1,0,1,0;s1,2,1,0;q0,3;q1,3;q1,2;q0,2;c0,2,0,5;c0,0,1,5;");
        due(17, "both suppers for two: suppers(0)", x.suppers(0), 3);
        due(17, "both suppers for two: suppers(1)", x.suppers(1), 2);
        SleepersShop y = shop("s1,0,1,0;s1,2,1,0;s1,4,1,0;q0,1;q0,2;q1,2;c0,2,2,5;c0,4,2,5;");
        due(17, "the fewest, then the lowest", y.suppers(0), 1);
        due(17, "one of both", y.suppers(1), 1);
        y.settle(1, 2);
        due(17, "one supper for both: suppers(0)", y.suppers(0), 1);
        due(17, "one supper for both: suppers(1)", y.suppers(1), 2);
        SleepersShop z = shop("s1,4,1,0;s1,4,1,0;s1,2,1,0;s1,0,1,0;q0,2;q1,2;q2,3;c0,0,2,5;c0,2,2,5;q0,3;q1,3;");
        due(17, "3 would do, 7 too: the fewest", z.suppers(0), 3);
    }

    private static void apart() {
        SleepersShop x = shop("s1,0,1,0;s1,2,1,0;s1,4,1,0;q1,2;q0,2;q1,0;c0,2,2,5;c1,4,2,5;c2,4,2,5;");
        due(18, "apart(1, 0)", x.apart(1, 0), 1);
        due(18, "apart(1, 1): of 0 and 1", x.apart(1, 1), 1);
        due(18, "apart(2, 0)", x.apart(2, 0), 2);
        due(18, "apart(2, 1): all but one", x.apart(2, 1), 7);
        due(18, "apart(14, 0)", x.apart(14, 0), 3);
        due(18, "apart(14, 1)", x.apart(14, 1), 7);
        due(18, "apart(0, 0)", x.apart(0, 0), BAD);
        due(18, "apart(15, 0)", x.apart(15, 0), BAD);
        due(18, "apart(-1, 0)", x.apart(-1, 0), BAD);
        due(18, "apart(1, -1)", x.apart(1, -1), BAD);
        due(18, "apart(1, 2)", x.apart(1, 2), BAD);
        due(18, "they quarrel as before", x.count(2), 3);
        x.pass(1);
        due(18, "from night 1: one is enough", x.apart(2, 0), 2);
        due(18, "from night 1: which", x.apart(2, 1), 2);
        due(18, "all the nights together", x.apart(14, 0), 3);
        SleepersShop y = shop("s1,0,1,0;s1,2,1,0;s1,4,1,0;c0,2,2,5;c0,3,2,5;");
        due(18, "no quarrels: apart(1, 0)", y.apart(1, 0), 2);
        due(18, "no quarrels: apart(1, 1)", y.apart(1, 1), 0);
        SleepersShop z = shop("s1,0,1,0;s1,2,1,0;s1,2,1,0;s1,5,1,0;q0,1;q0,2;q0,3;c0,2,2,5;c0,5,2,5;");
        due(18, "0 serves thing 0 alone: 1 and 3 are wanted", z.apart(1, 1), 5);
        due(18, "two are served", z.apart(1, 0), 2);
        z.supper(0);
        due(18, "with a supper for this night", z.apart(1, 1), 0);
        due(18, "later it is gone, but no one comes", z.apart(14, 1), 0);
        SleepersShop last = shop("s0,0,2,1;s0,0,2,1;s0,0,2,1;s0,0,2,1;s1,0,1,0;s1,2,1,0;q4,5;q0,1;c0,2,2,5;");
        due(18, "the pair of the last two is the last: apart(1, 1)", last.apart(1, 1), 2);
        due(18, "the pair of the last two is the last: apart(1, 0)", last.apart(1, 0), 1);
        SleepersShop wake = shop("s0,0,1,0;s1,0,1,0;q0,1;c0,0,1,5;c1,0,3,5;c2,0,3,5;c3,0,3,5;");
        due(18, "who is woken is AWAKE then: all four", wake.apart(4, 0), 4);
        due(18, "by making up", wake.apart(4, 1), 1);
        due(18, "on the one night", wake.apart(1, 0), 1);
    }

    private static void ask() {
        SleepersShop x = shop("s2,0,1,0;s0,2,1,0;s1,4,1,0;c0,0,0,5;c0,0,3,5;c0,2,1,5;c0,4,0,11;c0,4,2,10;c1,0,0,5;");
        due(19, "a poet: in rhyme", x.ask(0), 1);
        due(19, "she is woken by then", x.ask(1), NONE);
        due(19, "a judge: plainly", x.ask(2), 0);
        due(19, "a grocer with 11 pence: in rhyme", x.ask(3), 1);
        due(19, "she is woken by then, too", x.ask(4), NONE);
        due(19, "not on this night", x.ask(5), NONE);
        due(19, "ask(-1)", x.ask(-1), BAD);
        due(19, "ask(6)", x.ask(6), BAD);
        due(19, "he asks as before", x.customer(0, 2), 0);
        x.pass(1);
        due(19, "the poet is AWAKE", x.ask(5), NONE);
        x.lull(0);
        due(19, "the poet sleeps", x.ask(5), 1);
        SleepersShop y = shop("s2,0,1,0;s0,0,1,0;c0,0,1,5;c0,0,0,5;");
        due(19, "no one is woken, the second neither", y.ask(0), 1);
        due(19, "the lowest is a poet", y.ask(1), 1);
        SleepersShop z = shop("s3,0,1,0;c0,1,2,60;c0,2,2,60;");
        due(19, "a mother: plainly", z.ask(0), 0);
        due(19, "nobody has the thing", z.ask(1), NONE);
        SleepersShop grocer = shop("s1,0,1,0;c0,1,2,10;");
        due(19, "a grocer with 10 pence: plainly", grocer.ask(0), 0);
        grocer.supper(0);
        due(19, "nobody walks", grocer.ask(0), NONE);
        SleepersShop dog = shop("s1,0,1,0;c0,1,2,10;h1;");
        due(19, "by a dog", dog.ask(0), NONE);
    }

    private static void see() {
        SleepersShop x = shop(ONE + ONE);
        due(20, "see(-1, 0, true)", x.see(-1, 0, true), BAD);
        due(20, "see(2, 0, true)", x.see(2, 0, true), BAD);
        due(20, "see(0, -1, true)", x.see(0, -1, true), BAD);
        due(20, "see(0, 100, false)", x.see(0, 100, false), BAD);
        due(20, "see(0, 0, true)", x.see(0, 0, true), 1);
        due(20, "the same once more", x.see(0, 0, true), 2);
        due(20, "against it", x.see(0, 0, false), 3);
        due(20, "see(1, 99, false)", x.see(1, 99, false), 4);
        for (int i = 5; i <= 8; i++) {
            due(20, "see(1, " + i + ", false)", x.see(1, i, false), i);
        }
        due(20, "the ninth", x.see(1, 0, true), FULL);
        due(20, "BAD ahead of FULL", x.see(2, 0, true), BAD);
        due(20, "eight", x.count(8), 8);
        due(20, "nothing of it is undone", x.count(9), 0);
    }

    private static void forget() {
        SleepersShop x = shop(ONE);
        due(21, "forget() of nothing", x.forget(), 0);
        x.see(0, 3, true);
        x.see(0, 4, true);
        due(21, "forget()", x.forget(), 2);
        due(21, "nothing is seen", x.count(8), 0);
        due(21, "all laws again", x.law(0, 0), 55);
        x.see(0, 1, false);
        due(21, "what was forgotten stays so", x.law(0, 1), 20);
    }

    private static void law() {
        SleepersShop x = shop(ONE + ONE);
        due(22, "law(0, 0) of nothing", x.law(0, 0), 55);
        due(22, "law(0, 1) of nothing", x.law(0, 1), 10);
        due(22, "law(-1, 0)", x.law(-1, 0), BAD);
        due(22, "law(2, 0)", x.law(2, 0), BAD);
        due(22, "law(0, -1)", x.law(0, -1), BAD);
        due(22, "law(0, 2)", x.law(0, 2), BAD);
        x.see(0, 9, true);
        due(22, "one for each E", x.law(0, 0), 10);
        x.see(0, 7, false);
        due(22, "but 1 and 2", x.law(0, 0), 8);
        due(22, "E 3, O 0", x.law(0, 1), 30);
        x.see(0, 19, true);
        due(22, "E 5 or 10", x.law(0, 0), 2);
        due(22, "E 5, O 4", x.law(0, 1), 54);
        x.see(0, 24, false);
        due(22, "E 10 alone", x.law(0, 0), 1);
        due(22, "E 10, O 9", x.law(0, 1), 109);
        due(22, "of the other nothing", x.law(1, 0), 55);
        x.see(0, 99, false);
        due(22, "none", x.law(0, 0), 0);
        due(22, "none: law(0, 1)", x.law(0, 1), NONE);
        x.see(1, 0, false);
        due(22, "not E 1, nor any O 0", x.law(1, 0), 45);
        due(22, "E 2, O 1", x.law(1, 1), 21);
        SleepersShop y = shop("s0,0,7,3;");
        y.see(0, 4, true);
        y.see(0, 5, true);
        due(22, "two nights in a row", y.law(0, 0), 1);
        due(22, "every night", y.law(0, 1), 10);
        y.see(0, 5, false);
        due(22, "against itself", y.law(0, 1), NONE);
    }

    private static void did() {
        SleepersShop x = shop("s0,0,1,0;s1,5,3,1;s2,1,1,0;s3,0,1,0;q0,3;c0,0,1,5;c1,0,0,11;c2,1,0,5;c0,0,3,5;c0,3,0,5;");
        int[] want = {2 + 8, 1 + 8, 1 + 8, 1 + 2 + 8, 0};
        for (int c = 0; c < want.length; c++) {
            due(23, "did(" + c + ")", x.did(c), want[c]);
        }
        due(23, "did(-1)", x.did(-1), BAD);
        due(23, "did(5)", x.did(5), BAD);
        x.pass(1);
        x.supper(3);
        due(23, "whoever walks", x.did(0), 10);
        SleepersShop y = shop("s0,4,1,0;s0,5,1,0;s0,0,1,0;c0,5,0,1;c0,4,2,1;c0,0,0,1;");
        due(23, "skills 4 and 5", y.did(0), 3);
        due(23, "skill 4", y.did(1), 1);
        due(23, "skills 5 and 0", y.did(2), 6);
    }

    private static void chance(SleepersShop x, int n, int tenths, int above, int below) {
        due(24, "dogs(" + n + ", " + tenths + ", 0)", x.dogs(n, tenths, 0), above);
        due(24, "dogs(" + n + ", " + tenths + ", 1)", x.dogs(n, tenths, 1), below);
    }

    private static void dogs() {
        SleepersShop x = shop("s0,0,1,0;c0,0,0,5;c2,0,0,5;c5,0,0,5;h2;");
        int[][] due = {{0, 0, 1, 1}, {0, 10, 1, 1}, {1, 0, 1, 1}, {1, 10, 0, 1}, {1, 3, 7, 10}, {1, 5, 1, 2},
            {2, 3, 7, 10}, {3, 3, 49, 100}, {3, 4, 9, 25}, {6, 3, 343, 1000}, {6, 5, 1, 8}, {6, 9, 1, 1000},
            {6, 0, 1, 1}, {6, 10, 0, 1}};
        for (int[] one : due) {
            chance(x, one[0], one[1], one[2], one[3]);
        }
        int[][] bad = {{-1, 0, 0}, {7, 0, 0}, {0, -1, 0}, {0, 11, 0}, {0, 0, -1}, {0, 0, 2}};
        for (int[] one : bad) {
            due(24, "dogs(" + one[0] + ", " + one[1] + ", " + one[2] + ")", x.dogs(one[0], one[1], one[2]), BAD);
        }
        due(24, "no night has gone by", x.count(3), 0);
        x.supper(0);
        chance(x, 1, 0, 0, 1);
        x.pass(1);
        chance(x, 1, 10, 1, 1);
        chance(x, 2, 2, 4, 5);
        SleepersShop y = shop("s1,0,1,0;s2,0,1,0;q0,1;c0,0,0,5;c1,0,0,11;c1,0,1,5;c2,0,0,5;");
        y.settle(0, 1);
        chance(y, 1, 5, 1, 2);
        chance(y, 2, 5, 0, 1);
        SleepersShop z = shop("s0,0,1,0;s0,0,1,1;c0,1,1,5;c1,0,0,5;c2,5,0,5;");
        z.pass(1);
        chance(z, 1, 9, 0, 1);
        SleepersShop w = shop("s0,0,1,0;s1,1,1,0;c0,1,1,5;c3,0,0,5;");
        chance(w, 4, 1, 0, 1);
        chance(w, 3, 1, 9, 10);
        SleepersShop many = shop("s0,0,1,0;c0,0,0,5;c1,0,0,5;c2,0,0,5;c3,0,0,5;c4,0,0,5;c5,0,0,5;");
        chance(many, 6, 1, 531441, 1000000);
        chance(many, 6, 2, 4096, 15625);
        chance(many, 6, 5, 1, 64);
        SleepersShop rest = shop("s1,0,2,0;s2,2,1,0;q0,1;c0,0,0,5;c0,2,0,5;");
        chance(rest, 1, 1, 0, 1);
    }

    private static void year() {
        SleepersShop x = new SleepersShop();
        due(25, "year(5, 40, 0)", x.year(5, 40, 0), 92);
        due(25, "year(5, 40, 1)", x.year(5, 40, 1), 10);
        int[][] bad = {{-1, 1, 0}, {10000, 1, 0}, {0, 0, 0}, {0, 41, 0}, {0, 1, -1}, {0, 1, 2}};
        for (int[] one : bad) {
            due(25, "year(" + one[0] + ", " + one[1] + ", " + one[2] + ")", x.year(one[0], one[1], one[2]), BAD);
        }
        due(25, "no night has gone by", x.count(3), 0);
        x.pass(14);
        int till = x.count(5);
        due(25, "TILL then is the whole", x.year(5, 1, 0) >= till ? 1 : 0, 1);
        due(25, "HAMS in it are its own", x.year(5, 1, 1) <= 2 ? 1 : 0, 1);
        yearByHand();
        yearAgainstNights(3);
        yearAgainstNights(9999);
    }

    /** z 0: for k 0 x is 1, DRAW 0: one of the first number has a supper. */
    private static void yearByHand() {
        SleepersShop x = shop("s0,0,1,0;c0,0,0,5;");
        due(25, "by a supper: year(0, 1, 0)", x.year(0, 1, 0), 0);
        due(25, "by a supper: year(0, 1, 1)", x.year(0, 1, 1), 1);
        x.supper(0);
        due(25, "she has one: year(0, 1, 1)", x.year(0, 1, 1), 1);
        SleepersShop y = shop("s0,0,1,0;s0,0,1,0;c0,0,0,5;");
        due(25, "the other serves: year(0, 1, 0)", y.year(0, 1, 0), 5);
        // x = 7920; 62726400 modulo 65521 = 22803, by 2: 11401, by 8: 1425, modulo 3: 0, modulo 2: 1.
        y.supper(0);
        due(25, "DRAW 11401 is for 1 of two", y.year(1, 1, 1), 1);
        y.undo();
        y.supper(1);
        due(25, "0 serves", y.year(1, 1, 1), 0);
    }

    /** The same year by suppers and nights one by one. */
    private static void yearAgainstNights(int z) {
        SleepersShop x = shop(FIRST);
        x.pass(3);
        int hams = x.count(7);
        for (int n = 1; n <= 40; n++) {
            SleepersShop y = shop(FIRST);
            y.pass(3);
            for (int k = 0; k < n; k++) {
                long at = 7919L * z + 6151L * k + 1;
                long draw = at * at % 65521 / 2;
                if (draw / 8 % 3 == 0) {
                    y.supper((int) (draw % 5));
                }
                y.pass(1);
            }
            due(25, "year(" + z + ", " + n + ", 0)", x.year(z, n, 0), y.count(5));
            due(25, "year(" + z + ", " + n + ", 1)", x.year(z, n, 1), y.count(7) - hams);
        }
    }

    private static void keep() {
        SleepersShop x = shop(ONE);
        due(26, "keep()", x.keep(), 1);
        due(26, "keep() once more", x.keep(), 2);
        due(26, "a third", x.keep(), FULL);
        due(26, "two", x.count(10), 2);
        due(26, "nothing of it is undone", x.undo(), NO);
        x.pass(1);
        x.keep();
        x.back();
        due(26, "what did not fit is not kept", x.count(3), 0);
        due(26, "now it fits", x.keep(), 2);
        due(26, "undo() may go on behind keep()", x.pass(2), 2);
        due(26, "by one", x.undo(), 0);
    }

    private static void back() {
        SleepersShop x = shop("s0,0,1,0;s1,2,1,0;c0,0,1,60;c1,2,3,5;c2,2,1,12;c3,5,3,1;");
        due(27, "back() of nothing", x.back(), NO);
        x.pass(1);
        x.supper(0);
        x.settle(0, 1);
        String first = whole(x);
        x.keep();
        x.pass(3);
        x.settle(0, 1);
        x.keep();
        due(27, "behind keep() all can be undone", x.count(9), 5);
        x.pass(14);
        x.see(1, 5, true);
        x.write('z');
        int length = x.count(11);
        due(27, "back()", x.back(), 1);
        due(27, "four nights", x.count(3), 4);
        due(27, "till", x.count(5), 11);
        due(27, "drawer", x.count(6), 1);
        due(27, "hams", x.count(7), 2);
        due(27, "made up", x.quarrel(0, 1), 0);
        due(27, "nothing is UNDONE", x.undo(), NO);
        due(27, "SEEN stays", x.count(8), 1);
        due(27, "the law of it", x.law(1, 0), 10);
        due(27, "THE TEXT stays", x.count(11), length);
        x.forget();
        due(27, "back() once more", x.back(), 0);
        due(27, "AWAKE", x.staff(0, 5), 3);
        due(27, "the supper", x.staff(0, 6), 1);
        due(27, "the quarrel", x.quarrel(0, 1), 1);
        due(27, "no more", x.back(), NO);
        x.wipe();
        SleepersShop y = shop("s0,0,1,0;s1,2,1,0;c0,0,1,60;c1,2,3,5;c2,2,1,12;c3,5,3,1;");
        y.pass(1);
        y.supper(0);
        y.settle(0, 1);
        y.keep();
        y.back();
        y.wipe();
        same(27, "back()", whole(x), whole(y));
        due(27, "what was kept had more", whole(x).equals(first) ? 1 : 0, 0);
    }

    private static void count() {
        SleepersShop x = shop("s0,0,1,0;s1,2,1,0;s2,4,2,1;q0,2;c0,0,0,60;c0,2,1,20;c0,5,1,20;");
        x.pass(1);
        x.settle(1, 2);
        x.settle(0, 1);
        x.see(0, 0, false);
        x.keep();
        x.keep();
        int[] want = {3, 3, 3, 1, 1, 74, 6, 1, 1, 3, 2, 62};
        for (int what = 0; what < want.length; what++) {
            due(28, "count(" + what + ")", x.count(what), want[what]);
        }
        due(28, "count(-1)", x.count(-1), BAD);
        due(28, "count(12)", x.count(12), BAD);
        due(28, "count(MIN)", x.count(Integer.MIN_VALUE), BAD);
        due(28, "count(MAX)", x.count(Integer.MAX_VALUE), BAD);
        x.settle(0, 1);
        x.settle(0, 2);
        x.settle(1, 2);
        due(28, "all three walk", x.count(4), 3);
        x.undo();
        due(28, "one less can be undone", x.count(9), 5);
    }
}
