import java.util.function.ToIntFunction;

/** What the edge tests share: answers that are due, shops told in a text, and all that can be seen of one. */
final class Checks {
    static final int BAD = -1, NO = -2, FULL = -3, NONE = -4;
    static final int MIN = Integer.MIN_VALUE, MAX = Integer.MAX_VALUE;
    /** A text of one judge who serves things 0 and 1 and walks on every night: 9 letters. */
    static final String ONE = "s0,0,1,0;";

    private final String name;
    private int checks = 0;
    private int wrong = 0;

    Checks(String name) {
        this.name = name;
    }

    void due(String what, int got, int want) {
        checks++;
        if (got != want) {
            wrong++;
            System.out.println(what + " answered " + got + ", due is " + want);
        }
    }

    void same(String what, String got, String want) {
        checks++;
        if (!got.equals(want)) {
            wrong++;
            System.out.println(what + ":\n  " + got + "\n  due is\n  " + want);
        }
    }

    /** BAD just if it is not within what the document tells. */
    void badUnless(boolean within, String what, int got) {
        checks++;
        if ((got == BAD) == within) {
            wrong++;
            System.out.println(what + " answered " + got + ", due is " + (within ? "no BAD" : "BAD"));
        }
    }

    void end() {
        System.out.println(name + ": " + checks + " answers, " + wrong + " not as due");
        if (wrong != 0) {
            System.exit(1);
        }
    }

    static void tell(SleepersShop x, String text) {
        x.wipe();
        for (int i = 0; i < text.length(); i++) {
            x.write(text.charAt(i));
        }
    }

    /** A shop by the text, which must be one that can be laid. */
    static SleepersShop shop(String text) {
        SleepersShop x = new SleepersShop();
        tell(x, text);
        if (x.lay() < 1) {
            throw new IllegalStateException("not laid: " + text);
        }
        return x;
    }

    static int faultOf(String text) {
        SleepersShop x = new SleepersShop();
        tell(x, text);
        return x.fault();
    }

    static String times(String text, int many) {
        return text.repeat(many);
    }

    /** What goes by with the nights: all that is undone, and kept. */
    private static void addState(StringBuilder all, SleepersShop x) {
        for (int what = 2; what <= 7; what++) {
            all.append(x.count(what)).append(' ');
        }
        int staff = x.count(0);
        for (int s = 0; s < staff; s++) {
            all.append(x.staff(s, 5)).append(x.staff(s, 6)).append(' ');
            for (int t = s + 1; t < staff; t++) {
                all.append(x.quarrel(s, t));
            }
        }
        all.append('|');
    }

    private static void addRest(StringBuilder all, SleepersShop x) {
        for (int what : new int[] {0, 1, 8, 9, 10, 11}) {
            all.append(x.count(what)).append(' ');
        }
        for (int s = 0; s < x.count(0); s++) {
            all.append(x.law(s, 0)).append(' ').append(x.law(s, 1)).append(' ');
        }
        for (int c = 0; c < x.count(1); c++) {
            all.append(x.customer(c, 5)).append(' ');
        }
        all.append(x.woken()).append(' ').append(x.fault()).append('|');
    }

    private static void addTold(StringBuilder all, SleepersShop x) {
        for (int s = 0; s < x.count(0); s++) {
            for (int what = 0; what <= 3; what++) {
                all.append(x.staff(s, what)).append(' ');
            }
        }
        for (int c = 0; c < x.count(1); c++) {
            for (int what = 0; what <= 3; what++) {
                all.append(x.customer(c, what)).append(' ');
            }
        }
        all.append('|');
    }

    /** What can be seen, then each state that can be undone, each that is kept, and what the text lays: it uses x up. */
    static String trail(SleepersShop x) {
        StringBuilder all = new StringBuilder();
        addRest(all, x);
        addState(all, x);
        addTold(all, x);
        for (int left = x.undo(); left >= 0; left = x.undo()) {
            all.append(left).append(": ");
            addState(all, x);
        }
        for (int left = x.back(); left >= 0; left = x.back()) {
            all.append("kept ").append(left).append(": ");
            addState(all, x);
        }
        all.append(x.lay());
        addTold(all, x);
        return all.toString();
    }

    /** The call gives this answer, and behind it all is as it is without it. */
    void leavesAll(String what, ToIntFunction<SleepersShop> call, int want, java.util.function.Supplier<SleepersShop> made) {
        SleepersShop with = made.get();
        due(what, call.applyAsInt(with), want);
        due(what + " once more", call.applyAsInt(with), want);
        same("behind " + what, trail(with), trail(made.get()));
    }
}
