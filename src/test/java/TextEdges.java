/** The bounds of a text and of its items (the document's section 1), and what is laid by them. */
public final class TextEdges {
    private static final int NONE = Checks.NONE, NO = Checks.NO, BAD = Checks.BAD, FULL = Checks.FULL;
    private static final String ONE = Checks.ONE;
    private static final Checks CHECKS = new Checks("TextEdges");

    private static void due(String what, int got, int want) {
        CHECKS.due(what, got, want);
    }

    private static void fault(String text, int want) {
        due("fault() of " + text, Checks.faultOf(text), want);
    }

    public static void main(String[] args) {
        letters();
        twoHundredLetters();
        wipedLetters();
        staffNumbers();
        customerNumbers();
        dogNumbers();
        quarrelNumbers();
        itemsCutOff();
        itemsWithALetterChanged();
        itemsWithALetterLeftOut();
        lettersThatAreNoItem();
        firstFault();
        mostStaff();
        mostCustomers();
        mostQuarrels();
        quarrelsToldAgain();
        lastDog();
        layRefused();
        layAtTheEdges();
        layBeginsAnew();
        CHECKS.end();
    }

    /** "A letter (32 to 126, as in ASCII) comes behind THE TEXT: how long it is. BAD" */
    private static void letters() {
        SleepersShop x = new SleepersShop();
        int length = 0;
        for (int letter = -3; letter <= 300; letter++) {
            boolean within = letter >= 32 && letter <= 126;
            length += within ? 1 : 0;
            due("write(" + letter + ")", x.write(letter), within ? length : BAD);
        }
        due("the text then", x.count(11), 95);
        int[] far = {Checks.MIN, Checks.MAX, 32 + 256, 115 - 256, 115 + 65536};
        for (int letter : far) {
            due("write(" + letter + ")", x.write(letter), BAD);
        }
        due("the text then", x.count(11), 95);
        SleepersShop y = new SleepersShop();
        y.write('s');
        y.write(31);
        y.write(127);
        for (char letter : "0,0,1,0;".toCharArray()) {
            y.write(letter);
        }
        due("what is refused is no letter of the text", y.lay(), 1);
    }

    /** "A TEXT is letters (200 at most)": the 200th counts, the 201st does not. */
    private static void twoHundredLetters() {
        String text = ONE + Checks.times("h10;", 47) + "h1;";
        SleepersShop x = new SleepersShop();
        for (int i = 0; i < 200; i++) {
            due("write of letter " + (i + 1), x.write(text.charAt(i)), i + 1);
        }
        due("write of letter 201", x.write('x'), FULL);
        due("write of letter 201 once more", x.write(';'), FULL);
        due("write(32) to a full text", x.write(32), FULL);
        due("write(126) to a full text", x.write(126), FULL);
        due("write(127) to a full text", x.write(127), BAD);
        due("write(31) to a full text", x.write(31), BAD);
        due("count(11)", x.count(11), 200);
        due("fault() of 200 letters", x.fault(), NONE);
        due("lay() of 200 letters", x.lay(), 1);
        due("the last item of 200 letters counts", x.count(4), 0);
        due("THE TEXT stays", x.count(11), 200);
        due("wipe()", x.wipe(), 200);
        due("write behind wipe()", x.write('s'), 1);
        fault(ONE + Checks.times("h10;", 47) + "h1x", 197);
        fault(ONE + Checks.times("h10;", 47) + "h1;".substring(0, 2), 197);
        fault(Checks.times("h1;", 66) + "h1", 198);
        fault(Checks.times("h1;", 66) + "h", 198);
        fault(Checks.times("h1;", 66), NONE);
        fault(Checks.times("h2;", 65) + "h10;;", 199);
        fault(Checks.times("x", 200), 0);
    }

    /** "THE TEXT is empty: how long it was." */
    private static void wipedLetters() {
        SleepersShop x = new SleepersShop();
        due("wipe() of a new one", x.wipe(), 0);
        for (int length = 1; length <= 5; length++) {
            for (int i = 0; i < length; i++) {
                x.write('h');
            }
            due("wipe() of " + length, x.wipe(), length);
            due("wipe() of none", x.wipe(), 0);
            due("an empty text has no fault", x.fault(), NONE);
            due("an empty text is not laid", x.lay(), NO);
        }
        Checks.tell(x, "h1;s0,0,1,0;");
        Checks.tell(x, "h1;s0,0,1,0");
        due("what stood behind it is no letter of the text", x.fault(), 3);
        Checks.tell(x, "h");
        due("one letter alone", x.fault(), 0);
        due("how long", x.count(11), 1);
    }

    private static String item(char letter, String[] numbers) {
        return letter + String.join(",", numbers) + ";";
    }

    /** Each number of an item by all that one, two and three figures can tell; the others stand at a bound of theirs. */
    private static void numbersWithin(char letter, int[] least, int[] most) {
        for (int place = 0; place < least.length; place++) {
            for (int number = 0; number <= 99; number++) {
                int want = number >= least[place] && number <= most[place] ? NONE : 9;
                String[] numbers = new String[least.length];
                for (int i = 0; i < numbers.length; i++) {
                    numbers[i] = "" + ((number & 1) == 0 ? least[i] : most[i]);
                }
                numbers[place] = "" + number;
                fault(ONE + item(letter, numbers), want);
                numbers[place] = (number < 10 ? "0" : "") + number;
                fault(ONE + item(letter, numbers), want);
                numbers[place] = "0" + numbers[place];
                fault(ONE + item(letter, numbers), 9);
            }
            for (String no : new String[] {"", " 1", "1 ", "-1", "+1", "a", "1a", "100", "000", "1.", ":", "/", "1:", "1/"}) {
                String[] numbers = new String[least.length];
                for (int i = 0; i < numbers.length; i++) {
                    numbers[i] = "" + most[i];
                }
                numbers[place] = no;
                fault(ONE + item(letter, numbers), 9);
            }
        }
        howMany(letter, most);
    }

    private static void howMany(char letter, int[] most) {
        StringBuilder numbers = new StringBuilder();
        fault(ONE + letter + ";", 9);
        for (int many = 1; many <= 6; many++) {
            numbers.append(many == 1 ? "" : ",").append(many <= most.length ? most[many - 1] : 1);
            fault(ONE + letter + numbers + ";", many == most.length ? NONE : 9);
            fault(ONE + letter + numbers + ",;", 9);
            fault(ONE + letter + "," + numbers + ";", 9);
        }
    }

    /** "sK,S,E,O": K 0 to 3, S 0 to 5, E 1 to 10, O 0 to 9. */
    private static void staffNumbers() {
        numbersWithin('s', new int[] {0, 0, 1, 0}, new int[] {3, 5, 10, 9});
        for (int o = 0; o <= 9; o++) {
            for (int e = 1; e <= 10; e++) {
                SleepersShop x = Checks.shop("s3,5," + e + "," + o + ";");
                due("E " + e, x.staff(0, 2), e);
                due("O " + o + " by E " + e, x.staff(0, 3), o);
            }
        }
    }

    /** "cN,W,A,P": N 0 to 13, W 0 to 5, A 0 to 3, P 1 to 60. */
    private static void customerNumbers() {
        numbersWithin('c', new int[] {0, 0, 0, 1}, new int[] {13, 5, 3, 60});
        for (int n = 0; n <= 13; n++) {
            SleepersShop x = Checks.shop(ONE + "c" + n + ",5,3,60;c0" + n % 10 + ",0,0,01;");
            due("night " + n, x.customer(0, 0), n);
            due("night of two figures, " + n % 10, x.customer(1, 0), n % 10);
            due("a penny of two figures", x.customer(1, 3), 1);
        }
    }

    /** "hD": D 1 to 10. */
    private static void dogNumbers() {
        numbersWithin('h', new int[] {1}, new int[] {10});
    }

    /** "A and B QUARREL (unlike, both told ahead": who is told behind does not count. */
    private static void quarrelNumbers() {
        for (int staff = 0; staff <= 6; staff++) {
            String all = Checks.times(ONE, staff);
            for (int a = 0; a <= 7; a++) {
                for (int b = 0; b <= 7; b++) {
                    boolean fits = a != b && a < staff && b < staff;
                    String text = all + "q" + a + "," + b + ";";
                    fault(text, fits ? NONE : 9 * staff);
                    if (staff < 6) {
                        fault(text + ONE, fits ? NONE : 9 * staff);
                    }
                }
            }
        }
        String two = ONE + ONE;
        String[] no = {"q0;", "q;", "q0,;", "q,1;", "q0,1,1;", "q0,1,;", "q00,001;", "q000,1;", "q0,99;", "q99,0;", "q10,1;",
            "q0,10;", "q0 ,1;", "q0;1;", "q0.1;", "q-0,1;", "q0,1", "q0,1,", "q0,", "q0", "q"};
        for (String text : no) {
            fault(two + text, 18);
        }
        fault(two + "q00,1;q0,01;q01,00;", NONE);
        fault(ONE + "q0,1;" + ONE, 9);
        fault("q0,1;" + two, 0);
    }

    /** An item that the text ends in is none. */
    private static void itemsCutOff() {
        String[] items = {"s3,5,10,09;", "q0,1;", "q01,00;", "c13,05,3,60;", "h10;"};
        for (String item : items) {
            for (int length = 1; length < item.length(); length++) {
                fault(ONE + ONE + item.substring(0, length), 18);
            }
            fault(ONE + ONE + item, NONE);
        }
    }

    /** At each place each of the letters: only a number within its bounds fits. */
    private static void itemsWithALetterChanged() {
        String item = "s1,2,3,4;";
        for (int place = 0; place < item.length(); place++) {
            for (char letter = 32; letter <= 126; letter++) {
                // A customer on night 1 who wants thing 2 in white for 4 pence is one, too.
                boolean fits = letter == item.charAt(place) || place == 0 && letter == 'c'
                    || place == 1 && letter >= '0' && letter <= '3' || place == 3 && letter >= '0' && letter <= '5'
                    || place == 5 && letter >= '1' && letter <= '9' || place == 7 && letter >= '0' && letter <= '9';
                fault(item.substring(0, place) + letter + item.substring(place + 1) + "h1;", fits ? NONE : 0);
            }
        }
        String dog = "h5;";
        for (char letter = 32; letter <= 126; letter++) {
            fault(letter + "5;", letter == 'h' ? NONE : 0);
            fault("h" + letter + ";", letter >= '1' && letter <= '9' ? NONE : 0);
            fault("h" + letter + "0;", letter == '1' ? NONE : 0);
            fault("h0" + letter + ";", letter >= '1' && letter <= '9' ? NONE : 0);
            fault("h5" + letter, letter == ';' ? NONE : 0);
            fault("h5" + letter + dog, letter == ';' ? NONE : 0);
        }
    }

    private static void itemsWithALetterLeftOut() {
        String item = "c13,5,3,60;";
        // c3,..; c1,..; and ..,6; are items, too; 0 pence are too few.
        int[] want = {0, NONE, NONE, 0, 0, 0, 0, 0, 0, NONE, 0};
        for (int place = 0; place < item.length(); place++) {
            fault(item.substring(0, place) + item.substring(place + 1), want[place]);
        }
        fault("c13,5,3,0;", 0);
        fault("s0,0,10;", 0);
        fault("s0,0,1,0h1;", 0);
        fault("h1h1;", 0);
    }

    /** "ITEMS one behind the other, each a letter": anything else behind the last one is a fault there. */
    private static void lettersThatAreNoItem() {
        for (char letter = 32; letter <= 126; letter++) {
            fault("" + letter, 0);
            fault(ONE + letter, 9);
            fault(ONE + letter + ONE, 9);
            fault(ONE + letter + "1;", letter == 'h' ? NONE : 9);
        }
        fault("S0,0,1,0;", 0);
        fault("H1;", 0);
        fault(ONE + "C0,0,0,1;", 9);
        fault(ONE + ONE + "Q0,1;", 18);
    }

    /** "the place of the first letter of the first ITEM that is not so" */
    private static void firstFault() {
        fault("h0;h0;", 0);
        fault("h1;h0;h0;", 3);
        fault("h1;h10;h0;", 7);
        fault("h1;" + ONE + "q0,1;c14,0,0,1;", 12);
        fault(ONE + "c0,0,0,0;" + "q0,0;", 9);
        fault(ONE + "q0,0;c0,0,0,0;", 9);
        fault("c0,0,0,1;c0,0,0,1;s4,0,1,0;", 18);
        fault("c00,00,00,01;s0,0,1,0;s0,0,0,0;", 22);
        fault("h1;;h1;", 3);
        fault("h1; h1;", 3);
        fault("", NONE);
        fault(ONE, NONE);
    }

    /** "6 at most, 0, 1, ..": each as told, in the order in which they are told. */
    private static void mostStaff() {
        StringBuilder text = new StringBuilder();
        for (int s = 0; s < 6; s++) {
            fault(text.toString(), NONE);
            text.append("s" + s % 4 + "," + s + "," + (s + 1) + "," + (9 - s) + ";h9;");
        }
        fault(text.toString(), NONE);
        fault(text + "h9;", NONE);
        fault(text + ONE, 72);
        fault(text + "h9;" + ONE, 75);
        SleepersShop x = Checks.shop(text.toString());
        due("count(0)", x.count(0), 6);
        for (int s = 0; s < 6; s++) {
            due("kind of " + s, x.staff(s, 0), s % 4);
            due("skill of " + s, x.staff(s, 1), s);
            due("E of " + s, x.staff(s, 2), s + 1);
            due("O of " + s, x.staff(s, 3), 9 - s);
        }
        due("no seventh", x.staff(6, 0), BAD);
    }

    /** "10 at most, 0, 1, .." */
    private static void mostCustomers() {
        StringBuilder text = new StringBuilder(ONE);
        for (int c = 0; c < 10; c++) {
            fault(text.toString(), NONE);
            text.append("c" + c + "," + c % 6 + "," + c % 4 + "," + (c + 10) + ";");
        }
        fault(text.toString(), NONE);
        fault(text + "h1;", NONE);
        fault(text + "c0,0,0,1;", 109);
        SleepersShop x = Checks.shop(text.toString());
        due("count(1)", x.count(1), 10);
        for (int c = 0; c < 10; c++) {
            due("night of " + c, x.customer(c, 0), c);
            due("thing of " + c, x.customer(c, 1), c % 6);
            due("way of " + c, x.customer(c, 2), c % 4);
            due("pence of " + c, x.customer(c, 3), c + 10);
        }
        due("no eleventh", x.customer(10, 0), BAD);
    }

    /** "6 QUARRELS at most" */
    private static void mostQuarrels() {
        String[] pairs = {"0,1", "0,2", "0,3", "0,4", "0,5", "1,2", "1,3", "1,4", "1,5", "2,3", "2,4", "2,5", "3,4", "3,5", "4,5"};
        String staff = Checks.times(ONE, 6);
        for (int first = 0; first < pairs.length; first++) {
            StringBuilder text = new StringBuilder(staff);
            for (int i = 0; i < 6; i++) {
                text.append("q").append(pairs[(first + i) % 15]).append(";");
            }
            fault(text.toString(), NONE);
            SleepersShop x = Checks.shop(text.toString());
            due("count(2)", x.count(2), 6);
            for (int i = 0; i < 15; i++) {
                String two = pairs[(first + i) % 15];
                due("quarrel of " + two, x.quarrel(two.charAt(0) - '0', two.charAt(2) - '0'), i < 6 ? 1 : 0);
                due("quarrel of " + two + ", turned", x.quarrel(two.charAt(2) - '0', two.charAt(0) - '0'), i < 6 ? 1 : 0);
            }
            for (int i = 6; i < 15; i++) {
                fault(text + "q" + pairs[(first + i) % 15] + ";", 84);
            }
            String fewer = "q" + pairs[first] + ";";
            fault(text + fewer, NONE);
            fault(text + fewer + fewer, NONE);
            fault(text + fewer + "q" + pairs[(first + 6) % 15] + ";", NONE);
            fault(text + fewer + "q" + pairs[(first + 6) % 15] + ";" + fewer, 94);
        }
    }

    /** "told once more they do not": and once more they do. */
    private static void quarrelsToldAgain() {
        for (int many = 0; many <= 12; many++) {
            StringBuilder text = new StringBuilder(ONE + ONE + ONE);
            for (int i = 0; i < many; i++) {
                text.append(i % 3 == 0 ? "q1,2;" : "q2,1;");
            }
            SleepersShop x = Checks.shop(text.toString());
            due("told " + many + " times", x.quarrel(1, 2), many % 2);
            due("QUARRELS, told " + many + " times", x.count(2), many % 2);
            due("others", x.quarrel(0, 1), 0);
            due("who WALKS", x.count(4), 3 - many % 2);
        }
    }

    /** "none without; of several such the last one counts" */
    private static void lastDog() {
        for (int d = 0; d <= 10; d++) {
            SleepersShop x = Checks.shop((d == 10 ? "h1;" : "h10;") + ONE + (d == 0 ? "" : "h" + d + ";"));
            SleepersShop none = Checks.shop(ONE);
            int every = d == 0 ? 10 : d;
            for (int n = 0; n <= 30; n++) {
                due("h" + every + " on night " + n, x.count(4), n % every == 0 ? 0 : 1);
                due("no dog on night " + n, none.count(4), 1);
                x.pass(1);
                none.pass(1);
            }
        }
    }

    /** "LAID is a TEXT without FAULT, of one of the STAFF at least (NO else" */
    private static void layRefused() {
        String[] no = {"", "h1;", "c0,0,0,1;", "h1;c13,5,3,60;h2;", ONE + "x", "x" + ONE, "s0,0,1,0", Checks.times(ONE, 7),
            ONE + "q0,0;", ONE + "c0,0,0,0;", ONE + "h11;", " " + ONE, ONE + " "};
        for (String text : no) {
            CHECKS.leavesAll("lay() of " + text, x -> x.lay(), NO, () -> {
                SleepersShop x = new SleepersShop();
                x.settle(0, 2);
                x.pass(3);
                x.supper(1);
                x.keep();
                x.see(4, 2, true);
                Checks.tell(x, text);
                return x;
            });
        }
    }

    private static void layAtTheEdges() {
        for (int staff = 1; staff <= 6; staff++) {
            SleepersShop x = new SleepersShop();
            Checks.tell(x, Checks.times(ONE, staff));
            due("lay() of " + staff, x.lay(), staff);
            due("count(0)", x.count(0), staff);
            due("no customers", x.count(1), 0);
            due("no quarrels", x.count(2), 0);
            due("THE TEXT stays", x.count(11), 9 * staff);
            due("lay() once more", x.lay(), staff);
        }
        SleepersShop x = Checks.shop("c0,0,0,1;h1;" + ONE);
        due("staff told last", x.count(0), 1);
        due("customers told ahead of the staff", x.count(1), 1);
    }

    /** "night 0, nobody AWAKE, TILL, DRAWER, HAMS 0, nothing SEEN, UNDONE, KEPT; THE TEXT stays" */
    private static void layBeginsAnew() {
        String text = "s0,0,1,0;s1,2,1,0;q0,1;c0,0,1,60;c1,2,2,60;c1,5,0,9;";
        SleepersShop x = Checks.shop(text);
        x.pass(2);
        x.settle(0, 1);
        x.supper(1);
        x.see(0, 0, true);
        x.see(1, 1, false);
        x.keep();
        x.keep();
        int[] ahead = {2, 3, 0, 2, 0, 55, 5, 2, 2, 3, 2, text.length()};
        int[] behind = {2, 3, 1, 0, 1, 0, 0, 0, 0, 0, 0, text.length()};
        for (int what = 0; what < ahead.length; what++) {
            due("count(" + what + ") ahead of lay()", x.count(what), ahead[what]);
        }
        due("AWAKE ahead of lay()", x.staff(0, 5), 2);
        due("lay()", x.lay(), 2);
        for (int what = 0; what < behind.length; what++) {
            due("count(" + what + ") behind lay()", x.count(what), behind[what]);
        }
        due("nobody AWAKE", x.staff(0, 5), 0);
        due("nobody has a SUPPER", x.staff(1, 6), 0);
        due("nothing SEEN", x.law(0, 0), 55);
        due("nothing UNDONE", x.undo(), NO);
        due("nothing KEPT", x.back(), NO);
        CHECKS.same("as a new one that is laid", Checks.trail(x), Checks.trail(Checks.shop(text)));
    }
}
