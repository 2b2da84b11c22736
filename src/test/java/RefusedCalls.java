import java.util.List;
import java.util.function.Supplier;
import java.util.function.ToIntFunction;

/** Each refused call, with the answer that is due; it changes nothing, and no question does. */
public final class RefusedCalls {
    private static final int NONE = Checks.NONE, NO = Checks.NO, BAD = Checks.BAD, FULL = Checks.FULL;
    private static final int[] FAR = {Checks.MIN, -1000, Checks.MAX, 1000};
    private static final Checks CHECKS = new Checks("RefusedCalls");

    public static void main(String[] args) {
        for (Supplier<SleepersShop> made : made()) {
            badOfShops(made);
            badOfNights(made);
            badOfWhatComes(made);
            badOfWhatWasSeen(made);
            badOfDogsAndYears(made);
            questions(made);
        }
        busyIsAtItsMost();
        noAndNone();
        full();
        firstOfSeveral();
        badOnAGrid();
        CHECKS.end();
    }

    /** A new one; one in which all is at its most; one of a single poet. */
    private static List<Supplier<SleepersShop>> made() {
        return List.of(SleepersShop::new, RefusedCalls::busy, RefusedCalls::single);
    }

    /** Six QUARRELS, eight SEEN, eight that can be UNDONE, two KEPT, some AWAKE, some with a SUPPER. */
    private static SleepersShop busy() {
        SleepersShop x = new SleepersShop();
        x.settle(0, 1);
        x.settle(0, 3);
        x.keep();
        x.pass(1);
        x.settle(1, 2);
        x.pass(1);
        x.settle(2, 4);
        x.settle(0, 2);
        x.settle(2, 0);
        x.supper(0);
        x.pass(3);
        x.keep();
        x.supper(0);
        x.supper(3);
        for (int i = 0; i < 8; i++) {
            x.see(i % 5, i, i % 3 == 0);
        }
        Checks.tell(x, "s2,1,1,0;h0;");
        return x;
    }

    private static void busyIsAtItsMost() {
        SleepersShop x = busy();
        int[] want = {5, 7, 6, 5, 0, 14, 1, 5, 8, 8, 2, 12};
        for (int what = 0; what < want.length; what++) {
            CHECKS.due("count(" + what + ") of the busy one", x.count(what), want[what]);
        }
        CHECKS.due("AWAKE, the poet", x.staff(2, 5), 1);
        CHECKS.due("AWAKE, another", x.staff(1, 5), 0);
    }

    private static SleepersShop single() {
        SleepersShop x = Checks.shop("s2,0,1,0;c0,0,0,5;");
        x.see(0, 1, false);
        x.write('s');
        return x;
    }

    private static void bad(Supplier<SleepersShop> made, String what, ToIntFunction<SleepersShop> call) {
        CHECKS.leavesAll(what, call, BAD, made);
    }

    private static void badOfShops(Supplier<SleepersShop> made) {
        for (int letter : new int[] {31, 127, -1, 0, 256, Checks.MIN, Checks.MAX}) {
            bad(made, "write(" + letter + ")", x -> x.write(letter));
        }
        int staff = made.get().count(0);
        int customers = made.get().count(1);
        for (int s : new int[] {-1, staff, 6, Checks.MIN, Checks.MAX}) {
            bad(made, "staff(" + s + ", 4)", x -> x.staff(s, 4));
            bad(made, "quarrel(" + s + ", 0)", x -> x.quarrel(s, 0));
            bad(made, "quarrel(0, " + s + ")", x -> x.quarrel(0, s));
            bad(made, "quarrel(" + s + ", " + s + ")", x -> x.quarrel(s, s));
        }
        for (int c : new int[] {-1, customers, 10, Checks.MIN, Checks.MAX}) {
            bad(made, "customer(" + c + ", 5)", x -> x.customer(c, 5));
        }
        for (int what : new int[] {-1, 7, Checks.MIN, Checks.MAX}) {
            bad(made, "staff(0, " + what + ")", x -> x.staff(0, what));
        }
        for (int what : new int[] {-1, 6, Checks.MIN, Checks.MAX}) {
            bad(made, "customer(0, " + what + ")", x -> x.customer(0, what));
        }
        bad(made, "quarrel(0, 0)", x -> x.quarrel(0, 0));
    }

    private static void badOfNights(Supplier<SleepersShop> made) {
        for (int n : new int[] {0, 15, -1, Checks.MIN, Checks.MAX}) {
            bad(made, "pass(" + n + ")", x -> x.pass(n));
        }
        int staff = made.get().count(0);
        for (int s : new int[] {-1, staff, 6, Checks.MIN, Checks.MAX}) {
            bad(made, "supper(" + s + ")", x -> x.supper(s));
            bad(made, "lull(" + s + ")", x -> x.lull(s));
            bad(made, "settle(" + s + ", 0)", x -> x.settle(s, 0));
            bad(made, "settle(0, " + s + ")", x -> x.settle(0, s));
            bad(made, "settle(" + s + ", " + s + ")", x -> x.settle(s, s));
        }
        for (int s = 0; s < staff; s++) {
            int alike = s;
            bad(made, "settle(" + s + ", " + s + ")", x -> x.settle(alike, alike));
        }
    }

    private static void badOfWhatComes(Supplier<SleepersShop> made) {
        for (int n : new int[] {-1, 29, Checks.MIN, Checks.MAX}) {
            bad(made, "behind(" + n + ", 0)", x -> x.behind(n, 0));
        }
        for (int what : new int[] {-1, 3, Checks.MIN, Checks.MAX}) {
            bad(made, "behind(28, " + what + ")", x -> x.behind(28, what));
        }
        for (int n : new int[] {0, 15, Checks.MIN, Checks.MAX}) {
            bad(made, "apart(" + n + ", 1)", x -> x.apart(n, 1));
        }
        for (int what : new int[] {-1, 2, Checks.MIN, Checks.MAX}) {
            bad(made, "ham(" + what + ")", x -> x.ham(what));
            bad(made, "suppers(" + what + ")", x -> x.suppers(what));
            bad(made, "apart(14, " + what + ")", x -> x.apart(14, what));
        }
        int customers = made.get().count(1);
        for (int c : new int[] {-1, customers, 10, Checks.MIN, Checks.MAX}) {
            bad(made, "ask(" + c + ")", x -> x.ask(c));
        }
    }

    private static void badOfWhatWasSeen(Supplier<SleepersShop> made) {
        int staff = made.get().count(0);
        int customers = made.get().count(1);
        for (int s : new int[] {-1, staff, 6, Checks.MIN, Checks.MAX}) {
            bad(made, "see(" + s + ", 0, true)", x -> x.see(s, 0, true));
            bad(made, "law(" + s + ", 1)", x -> x.law(s, 1));
        }
        for (int t : new int[] {-1, 100, Checks.MIN, Checks.MAX}) {
            bad(made, "see(0, " + t + ", false)", x -> x.see(0, t, false));
        }
        for (int what : new int[] {-1, 2, Checks.MIN, Checks.MAX}) {
            bad(made, "law(0, " + what + ")", x -> x.law(0, what));
        }
        for (int c : new int[] {-1, customers, 10, Checks.MIN, Checks.MAX}) {
            bad(made, "did(" + c + ")", x -> x.did(c));
        }
    }

    private static void badOfDogsAndYears(Supplier<SleepersShop> made) {
        int[][] dogs = {{-1, 5, 0}, {7, 5, 0}, {6, -1, 1}, {6, 11, 1}, {6, 5, -1}, {6, 5, 2}, {Checks.MIN, 0, 0}, {Checks.MAX, 0, 0},
            {0, Checks.MIN, 0}, {0, Checks.MAX, 0}, {0, 0, Checks.MIN}, {0, 0, Checks.MAX}};
        for (int[] one : dogs) {
            bad(made, "dogs(" + one[0] + ", " + one[1] + ", " + one[2] + ")", x -> x.dogs(one[0], one[1], one[2]));
        }
        int[][] years = {{-1, 40, 0}, {10000, 40, 0}, {9999, 0, 1}, {9999, 41, 1}, {9999, 40, -1}, {9999, 40, 2}, {Checks.MIN, 1, 0},
            {Checks.MAX, 1, 0}, {0, Checks.MIN, 0}, {0, Checks.MAX, 0}, {0, 1, Checks.MIN}, {0, 1, Checks.MAX}};
        for (int[] one : years) {
            bad(made, "year(" + one[0] + ", " + one[1] + ", " + one[2] + ")", x -> x.year(one[0], one[1], one[2]));
        }
        for (int what : new int[] {-1, 12, Checks.MIN, Checks.MAX}) {
            bad(made, "count(" + what + ")", x -> x.count(what));
        }
    }

    private static void question(Supplier<SleepersShop> made, String what, ToIntFunction<SleepersShop> call) {
        CHECKS.leavesAll(what, call, call.applyAsInt(made.get()), made);
    }

    /** What is only asked leaves all as it is, at the least and at the most. */
    private static void questions(Supplier<SleepersShop> made) {
        question(made, "fault()", x -> x.fault());
        question(made, "woken()", x -> x.woken());
        for (int what = 0; what <= 6; what++) {
            int w = what;
            question(made, "staff(0, " + w + ")", x -> x.staff(0, w));
        }
        for (int what = 0; what <= 5; what++) {
            int w = what;
            question(made, "customer(0, " + w + ")", x -> x.customer(0, w));
        }
        for (int what = 0; what <= 11; what++) {
            int w = what;
            question(made, "count(" + w + ")", x -> x.count(w));
        }
        for (int what = 0; what <= 1; what++) {
            int w = what;
            question(made, "ham(" + w + ")", x -> x.ham(w));
            question(made, "suppers(" + w + ")", x -> x.suppers(w));
            question(made, "apart(1, " + w + ")", x -> x.apart(1, w));
            question(made, "apart(14, " + w + ")", x -> x.apart(14, w));
            question(made, "law(0, " + w + ")", x -> x.law(0, w));
            question(made, "dogs(0, 0, " + w + ")", x -> x.dogs(0, 0, w));
            question(made, "dogs(6, 10, " + w + ")", x -> x.dogs(6, 10, w));
            question(made, "dogs(6, 3, " + w + ")", x -> x.dogs(6, 3, w));
            question(made, "year(0, 1, " + w + ")", x -> x.year(0, 1, w));
            question(made, "year(9999, 40, " + w + ")", x -> x.year(9999, 40, w));
        }
        for (int what = 0; what <= 2; what++) {
            int w = what;
            question(made, "behind(0, " + w + ")", x -> x.behind(0, w));
            question(made, "behind(28, " + w + ")", x -> x.behind(28, w));
        }
        question(made, "ask(0)", x -> x.ask(0));
        question(made, "did(0)", x -> x.did(0));
        if (made.get().count(0) > 1) {
            question(made, "quarrel(1, 0)", x -> x.quarrel(1, 0));
        }
    }

    /** "NO: not as things stand. NONE: there is none." */
    private static void noAndNone() {
        CHECKS.leavesAll("undo() of a new one", x -> x.undo(), NO, SleepersShop::new);
        CHECKS.leavesAll("back() of a new one", x -> x.back(), NO, SleepersShop::new);
        CHECKS.leavesAll("lay() of a new one", x -> x.lay(), NO, SleepersShop::new);
        CHECKS.leavesAll("fault() of a new one", x -> x.fault(), NONE, SleepersShop::new);
        CHECKS.leavesAll("lull(4) of a new one", x -> x.lull(4), NO, SleepersShop::new);
        CHECKS.leavesAll("ask(2) of a new one: not tonight", x -> x.ask(2), NONE, SleepersShop::new);
        CHECKS.leavesAll("lay() of a faulty text", x -> x.lay(), NO, RefusedCalls::busy);
        CHECKS.leavesAll("supper(0): she has one", x -> x.supper(0), NO, RefusedCalls::busy);
        CHECKS.leavesAll("supper(3): she has one", x -> x.supper(3), NO, RefusedCalls::busy);
        CHECKS.leavesAll("fault() of a faulty text", x -> x.fault(), 9, RefusedCalls::busy);
        CHECKS.leavesAll("undo() of one laid", x -> x.undo(), NO, RefusedCalls::single);
        CHECKS.leavesAll("back() of one laid", x -> x.back(), NO, RefusedCalls::single);
        CHECKS.leavesAll("lull(0): she walks", x -> x.lull(0), NO, RefusedCalls::single);
        CHECKS.leavesAll("lay() of one with a fault at its end", x -> x.lay(), NO, RefusedCalls::single);
        CHECKS.leavesAll("undo() behind back()", x -> x.undo(), NO, () -> {
            SleepersShop x = busy();
            x.back();
            return x;
        });
        CHECKS.leavesAll("back() when all that was KEPT is back", x -> x.back(), NO, () -> {
            SleepersShop x = busy();
            x.back();
            x.back();
            x.supper(1);
            return x;
        });
        CHECKS.leavesAll("undo() when all is UNDONE", x -> x.undo(), NO, () -> {
            SleepersShop x = busy();
            for (int i = 0; i < 8; i++) {
                x.undo();
            }
            return x;
        });
    }

    private static void full() {
        CHECKS.leavesAll("keep() of a third", x -> x.keep(), FULL, RefusedCalls::busy);
        CHECKS.leavesAll("see() of a ninth", x -> x.see(4, 99, true), FULL, RefusedCalls::busy);
        CHECKS.leavesAll("see() of a ninth, as one seen", x -> x.see(0, 0, true), FULL, RefusedCalls::busy);
        CHECKS.leavesAll("settle(3, 4) as a seventh", x -> x.settle(3, 4), FULL, RefusedCalls::busy);
        CHECKS.leavesAll("settle(4, 0) as a seventh", x -> x.settle(4, 0), FULL, RefusedCalls::busy);
        Supplier<SleepersShop> full = () -> {
            SleepersShop x = new SleepersShop();
            x.supper(1);
            Checks.tell(x, Checks.ONE + Checks.times("h10;", 47) + "h5;");
            return x;
        };
        CHECKS.leavesAll("write(115) to a full text", x -> x.write(115), FULL, full);
        CHECKS.leavesAll("write(32) to a full text", x -> x.write(32), FULL, full);
        CHECKS.leavesAll("write(126) to a full text", x -> x.write(126), FULL, full);
        CHECKS.leavesAll("write(127) to a full text", x -> x.write(127), BAD, full);
    }

    /** "Of several the first in this order": BAD ahead of NO, of NONE, of FULL. */
    private static void firstOfSeveral() {
        SleepersShop x = busy();
        CHECKS.due("see of a ninth, of none of the STAFF", x.see(5, 0, true), BAD);
        CHECKS.due("see of a ninth, on no night", x.see(0, 100, true), BAD);
        CHECKS.due("settle of a seventh, alike", x.settle(3, 3), BAD);
        CHECKS.due("settle of a seventh, of none", x.settle(3, 5), BAD);
        SleepersShop all = Checks.shop("s0,0,1,0;c0,0,0,1;");
        all.supper(0);
        CHECKS.due("supper of one that is not, all have one", all.supper(1), BAD);
        CHECKS.due("lull of one that is not, none is AWAKE", all.lull(1), BAD);
        CHECKS.due("customer that none SERVES, no what", all.customer(0, 6), BAD);
        CHECKS.due("ask of none", all.ask(1), BAD);
        SleepersShop ham = Checks.shop("s0,0,1,0;");
        CHECKS.due("ham of none, no what", ham.ham(2), BAD);
        ham.see(0, 0, true);
        ham.see(0, 0, false);
        CHECKS.due("law of none, no what", ham.law(0, 2), BAD);
    }

    /** BAD just where a number is outside what the document tells: all that lie round the bounds, each with each. */
    private static void badOnAGrid() {
        int[] some = new int[50];
        for (int i = 0; i < 46; i++) {
            some[i] = i - 3;
        }
        System.arraycopy(FAR, 0, some, 46, 4);
        for (int a : some) {
            SleepersShop x = Checks.shop("s2,0,1,0;s0,0,1,0;s1,0,1,0;c0,0,0,5;c0,0,1,5;");
            CHECKS.badUnless(a >= 0 && a < 2, "ask(" + a + ")", x.ask(a));
            CHECKS.badUnless(a >= 0 && a < 2, "did(" + a + ")", x.did(a));
            CHECKS.badUnless(a >= 0 && a < 3, "lull(" + a + ")", x.lull(a));
            CHECKS.badUnless(a >= 0 && a < 3, "supper(" + a + ")", x.supper(a));
            CHECKS.badUnless(a >= 0 && a <= 11, "count(" + a + ")", x.count(a));
            CHECKS.badUnless(a >= 0 && a <= 1, "ham(" + a + ")", x.ham(a));
            CHECKS.badUnless(a >= 0 && a <= 1, "suppers(" + a + ")", x.suppers(a));
            for (int b = -2; b <= 8; b++) {
                CHECKS.badUnless(a >= 0 && a < 3 && b >= 0 && b <= 6, "staff(" + a + ", " + b + ")", x.staff(a, b));
                CHECKS.badUnless(a >= 0 && a < 2 && b >= 0 && b <= 5, "customer(" + a + ", " + b + ")", x.customer(a, b));
                CHECKS.badUnless(a >= 0 && a < 3 && b >= 0 && b < 3 && a != b, "quarrel(" + a + ", " + b + ")", x.quarrel(a, b));
                CHECKS.badUnless(a >= 0 && a < 3 && b >= 0 && b < 3 && a != b, "settle(" + a + ", " + b + ")", x.settle(a, b));
                CHECKS.badUnless(a >= 0 && a <= 28 && b >= 0 && b <= 2, "behind(" + a + ", " + b + ")", x.behind(a, b));
                CHECKS.badUnless(a >= 1 && a <= 14 && b >= 0 && b <= 1, "apart(" + a + ", " + b + ")", x.apart(a, b));
                CHECKS.badUnless(a >= 0 && a < 3 && b >= 0 && b <= 1, "law(" + a + ", " + b + ")", x.law(a, b));
            }
            for (int b = -2; b <= 12; b++) {
                for (int part = -1; part <= 2; part++) {
                    boolean within = a >= 0 && a <= 6 && b >= 0 && b <= 10 && part >= 0 && part <= 1;
                    CHECKS.badUnless(within, "dogs(" + a + ", " + b + ", " + part + ")", x.dogs(a, b, part));
                    boolean aYear = a >= 1 && a <= 40 && b >= 0 && part >= 0 && part <= 1;
                    CHECKS.badUnless(aYear, "year(" + b + ", " + a + ", " + part + ")", x.year(b, a, part));
                }
            }
        }
    }
}
