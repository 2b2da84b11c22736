import java.util.ArrayDeque;
import java.util.ArrayList;
import java.util.Arrays;
import java.util.List;
import java.util.Random;
import java.util.TreeSet;
import java.util.function.IntUnaryOperator;
import java.util.regex.Matcher;
import java.util.regex.Pattern;

/** Long runs of drawn calls, each answer beside that of a second, slow reading of the document. */
public final class ModelRuns {
    private static final int BAD = -1, NO = -2, FULL = -3, NONE = -4;
    /** What is answered behind the 512th call is free. */
    private static final int RUNS = 1500, CALLS = 512;

    /** One of the staff, or a customer: the numbers of its item. */
    record Told(List<int[]> staff, List<int[]> customers, TreeSet<String> quarrels, int dog) { }

    /** All that changes by night; a copy is made ahead of each change. */
    static final class World {
        int night, till, drawer, hams;
        TreeSet<String> quarrels = new TreeSet<>();
        int[] awake = new int[6];
        boolean[] fed = new boolean[6];

        World copy() {
            World w = new World();
            w.night = night;
            w.till = till;
            w.drawer = drawer;
            w.hams = hams;
            w.quarrels = new TreeSet<>(quarrels);
            w.awake = awake.clone();
            w.fed = fed.clone();
            return w;
        }
    }

    /** What one night brings. */
    static final class Played {
        TreeSet<Integer> walk = new TreeSet<>(), woken = new TreeSet<>();
        int[] by = new int[10];
        int[] wakes = new int[10];
        int served, hams, firstHam = NONE, till, drawer;
    }

    static final class Model {
        String text = "";
        Told told;
        World w;
        ArrayDeque<World> undone = new ArrayDeque<>(), kept = new ArrayDeque<>();
        List<int[]> seen = new ArrayList<>();

        Model(String first) {
            text = first;
            lay();
            text = "";
        }

        static String two(int a, int b) {
            return Math.min(a, b) + "-" + Math.max(a, b);
        }

        /** The told shop, or null; the place of the fault is put into at. */
        Told parse(int[] at) {
            Pattern item = Pattern.compile("([sqch])(\\d\\d?(?:,\\d\\d?)*);");
            Matcher m = item.matcher(text);
            List<int[]> staff = new ArrayList<>(), customers = new ArrayList<>();
            TreeSet<String> quarrels = new TreeSet<>();
            int dog = 0;
            int place = 0;
            while (place < text.length()) {
                at[0] = place;
                if (!m.region(place, text.length()).lookingAt()) {
                    return null;
                }
                int[] n = Arrays.stream(m.group(2).split(",")).mapToInt(Integer::parseInt).toArray();
                switch (m.group(1)) {
                    case "s":
                        if (n.length != 4 || n[0] > 3 || n[1] > 5 || n[2] < 1 || n[2] > 10 || n[3] > 9 || staff.size() == 6) {
                            return null;
                        }
                        staff.add(n);
                        break;
                    case "c":
                        if (n.length != 4 || n[0] > 13 || n[1] > 5 || n[2] > 3 || n[3] < 1 || n[3] > 60 || customers.size() == 10) {
                            return null;
                        }
                        customers.add(n);
                        break;
                    case "q":
                        if (n.length != 2 || n[0] == n[1] || n[0] >= staff.size() || n[1] >= staff.size()) {
                            return null;
                        }
                        if (!quarrels.remove(two(n[0], n[1]))) {
                            quarrels.add(two(n[0], n[1]));
                        }
                        if (quarrels.size() > 6) {
                            return null;
                        }
                        break;
                    default:
                        if (n.length != 1 || n[0] < 1 || n[0] > 10) {
                            return null;
                        }
                        dog = n[0];
                }
                place = m.end();
            }
            at[0] = NONE;
            return new Told(staff, customers, quarrels, dog);
        }

        boolean dog(int night) {
            return told.dog != 0 && night % told.dog == 0;
        }

        static boolean wakes(int kind, int way, int pence) {
            return way == 1 && kind == 0 || way == 0 && kind == 2 || way == 0 && kind == 1 && pence > 10
                || way == 2 && kind == 3;
        }

        boolean serves(int s, int thing) {
            int skill = told.staff.get(s)[1];
            return (skill + 6 - thing) % 6 == 0 || (skill + 7 - thing) % 6 == 0;
        }

        /** Customer c asks in another way, if there is one. */
        Played play(World v, boolean dog, int c, int otherWay) {
            Played p = new Played();
            Arrays.fill(p.by, NONE);
            for (int s = 0; s < told.staff.size(); s++) {
                int[] one = told.staff.get(s);
                boolean walks = !dog && Math.floorMod(v.night - one[3], one[2]) == 0 && v.awake[s] == 0 && !v.fed[s];
                for (int lower : p.walk) {
                    walks &= !v.quarrels.contains(two(lower, s));
                }
                if (walks) {
                    p.walk.add(s);
                }
            }
            for (int i = 0; i < told.customers.size(); i++) {
                int[] one = told.customers.get(i);
                if (one[0] != v.night % 14) {
                    continue;
                }
                int way = i == c ? otherWay : one[2];
                for (int s : p.walk) {
                    if (p.by[i] != NONE || !serves(s, one[1]) || p.woken.contains(s)) {
                        continue;
                    }
                    if (wakes(told.staff.get(s)[0], way, one[3])) {
                        p.woken.add(s);
                        p.wakes[i]++;
                    } else {
                        p.by[i] = s;
                    }
                }
                if (p.by[i] == NONE) {
                    p.hams++;
                    p.firstHam = p.firstHam == NONE ? i : p.firstHam;
                } else {
                    p.served++;
                    int pays = way == 3 ? 0 : one[3];
                    p.drawer += 9 * pays / 100;
                    p.till += pays - 9 * pays / 100;
                }
            }
            return p;
        }

        Played tonight() {
            return play(w, dog(w.night), -1, 0);
        }

        Played go(World v, boolean dog) {
            Played p = play(v, dog, -1, 0);
            for (int s = 0; s < 6; s++) {
                v.awake[s] = p.woken.contains(s) ? 3 : v.awake[s] > 0 ? v.awake[s] - 1 : 0;
                v.fed[s] = false;
            }
            v.night++;
            v.till += p.till;
            v.drawer += p.drawer;
            v.hams += p.hams;
            return p;
        }

        void change() {
            undone.addLast(w.copy());
            if (undone.size() > 8) {
                undone.removeFirst();
            }
        }

        boolean noStaff(int s) {
            return s < 0 || s >= told.staff.size();
        }

        boolean noCustomer(int c) {
            return c < 0 || c >= told.customers.size();
        }

        static int bits(Iterable<Integer> set) {
            int all = 0;
            for (int i : set) {
                all += 1 << i;
            }
            return all;
        }

        int write(int letter) {
            if (letter < 32 || letter > 126) {
                return BAD;
            }
            if (text.length() == 200) {
                return FULL;
            }
            text += (char) letter;
            return text.length();
        }

        int wipe() {
            int length = text.length();
            text = "";
            return length;
        }

        int fault() {
            int[] at = {NONE};
            parse(at);
            return at[0];
        }

        int lay() {
            Told t = parse(new int[1]);
            if (t == null || t.staff.isEmpty()) {
                return NO;
            }
            told = t;
            w = new World();
            w.quarrels.addAll(t.quarrels);
            undone.clear();
            kept.clear();
            seen.clear();
            return t.staff.size();
        }

        int staff(int s, int what) {
            if (noStaff(s) || what < 0 || what > 6) {
                return BAD;
            }
            return what < 4 ? told.staff.get(s)[what] : what == 4 ? (tonight().walk.contains(s) ? 1 : 0)
                : what == 5 ? w.awake[s] : w.fed[s] ? 1 : 0;
        }

        int customer(int c, int what) {
            if (noCustomer(c) || what < 0 || what > 5) {
                return BAD;
            }
            return what < 4 ? told.customers.get(c)[what]
                : what == 4 ? (told.customers.get(c)[0] == w.night % 14 ? 1 : 0) : tonight().by[c];
        }

        int quarrel(int a, int b) {
            return noStaff(a) || noStaff(b) || a == b ? BAD : w.quarrels.contains(two(a, b)) ? 1 : 0;
        }

        int woken() {
            return bits(tonight().woken);
        }

        int pass(int n) {
            if (n < 1 || n > 14) {
                return BAD;
            }
            change();
            for (int i = 0; i < n; i++) {
                go(w, dog(w.night));
            }
            return w.night;
        }

        int supper(int s) {
            if (noStaff(s)) {
                return BAD;
            }
            if (w.fed[s]) {
                return NO;
            }
            change();
            w.fed[s] = true;
            int many = 0;
            for (boolean one : w.fed) {
                many += one ? 1 : 0;
            }
            return many;
        }

        int settle(int a, int b) {
            if (noStaff(a) || noStaff(b) || a == b) {
                return BAD;
            }
            boolean make = w.quarrels.contains(two(a, b));
            if (!make && w.quarrels.size() == 6) {
                return FULL;
            }
            change();
            if (make) {
                w.quarrels.remove(two(a, b));
                return 0;
            }
            w.quarrels.add(two(a, b));
            return 1;
        }

        int lull(int s) {
            if (noStaff(s)) {
                return BAD;
            }
            if (w.awake[s] == 0) {
                return NO;
            }
            change();
            int nights = w.awake[s];
            w.awake[s] = 0;
            return nights;
        }

        int undo() {
            if (undone.isEmpty()) {
                return NO;
            }
            w = undone.removeLast();
            return undone.size();
        }

        int behind(int n, int what) {
            if (n < 0 || n > 28 || what < 0 || what > 2) {
                return BAD;
            }
            World v = w.copy();
            for (int i = 0; i < n; i++) {
                go(v, dog(v.night));
            }
            return new int[] {v.till, v.drawer, v.hams}[what];
        }

        int ham(int what) {
            if (what < 0 || what > 1) {
                return BAD;
            }
            World v = w.copy();
            for (int i = 1; i <= 28; i++) {
                Played p = go(v, dog(v.night));
                if (v.hams > w.hams) {
                    return what == 0 ? i : p.firstHam;
                }
            }
            return NONE;
        }

        /** The best of all sets: most, then fewest, then lowest; as (set, how many). */
        static int[] best(int sets, IntUnaryOperator worth) {
            List<int[]> all = new ArrayList<>();
            for (int set = 0; set < sets; set++) {
                int many = worth.applyAsInt(set);
                if (many >= 0) {
                    all.add(new int[] {set, many});
                }
            }
            all.sort((a, b) -> a[1] != b[1] ? b[1] - a[1]
                : Integer.bitCount(a[0]) != Integer.bitCount(b[0]) ? Integer.bitCount(a[0]) - Integer.bitCount(b[0])
                : a[0] - b[0]);
            return all.get(0);
        }

        int suppers(int what) {
            if (what < 0 || what > 1) {
                return BAD;
            }
            return best(1 << told.staff.size(), set -> {
                World v = w.copy();
                for (int s = 0; s < 6; s++) {
                    if ((set >> s & 1) == 1) {
                        if (v.fed[s]) {
                            return -1;
                        }
                        v.fed[s] = true;
                    }
                }
                return play(v, dog(v.night), -1, 0).served;
            })[what];
        }

        int apart(int n, int what) {
            if (n < 1 || n > 14 || what < 0 || what > 1) {
                return BAD;
            }
            List<String> all = new ArrayList<>(w.quarrels);
            return best(1 << all.size(), set -> {
                World v = w.copy();
                for (int i = 0; i < all.size(); i++) {
                    if ((set >> i & 1) == 1) {
                        v.quarrels.remove(all.get(i));
                    }
                }
                int served = 0;
                for (int i = 0; i < n; i++) {
                    served += go(v, dog(v.night)).served;
                }
                return served;
            })[1 - what];
        }

        int ask(int c) {
            if (noCustomer(c)) {
                return BAD;
            }
            for (int way = 0; way < 4; way++) {
                Played p = play(w, dog(w.night), c, way);
                if (p.by[c] != NONE && p.wakes[c] == 0) {
                    return way;
                }
            }
            return NONE;
        }

        int see(int s, int t, boolean did) {
            if (noStaff(s) || t < 0 || t > 99) {
                return BAD;
            }
            if (seen.size() == 8) {
                return FULL;
            }
            seen.add(new int[] {s, t, did ? 1 : 0});
            return seen.size();
        }

        int forget() {
            int many = seen.size();
            seen.clear();
            return many;
        }

        int law(int s, int what) {
            if (noStaff(s) || what < 0 || what > 1) {
                return BAD;
            }
            List<Integer> laws = new ArrayList<>();
            for (int e = 1; e <= 10; e++) {
                for (int o = 0; o < e; o++) {
                    boolean fits = true;
                    for (int[] one : seen) {
                        fits &= one[0] != s || one[2] == (one[1] % e == o ? 1 : 0);
                    }
                    if (fits) {
                        laws.add(10 * e + o);
                    }
                }
            }
            return what == 0 ? laws.size() : laws.isEmpty() ? NONE : laws.get(0);
        }

        int did(int c) {
            if (noCustomer(c)) {
                return BAD;
            }
            TreeSet<Integer> set = new TreeSet<>();
            int[] one = told.customers.get(c);
            for (int s = 0; s < told.staff.size(); s++) {
                if (serves(s, one[1]) && !wakes(told.staff.get(s)[0], one[2], one[3])) {
                    set.add(s);
                }
            }
            return bits(set);
        }

        /** The part of 10 to the power of n that has no ham. */
        long withoutHam(World v, int n, int x) {
            if (n == 0) {
                return 1;
            }
            long all = 0;
            for (int dog = 0; dog < 2; dog++) {
                World next = v.copy();
                if (go(next, dog == 1).hams == 0) {
                    all += (dog == 1 ? x : 10 - x) * withoutHam(next, n - 1, x);
                }
            }
            return all;
        }

        int dogs(int n, int x, int part) {
            if (n < 0 || n > 6 || x < 0 || x > 10 || part < 0 || part > 1) {
                return BAD;
            }
            long above = withoutHam(w, n, x);
            long below = Math.round(Math.pow(10, n));
            long a = above, b = below;
            while (a != 0) {
                long rest = b % a;
                b = a;
                a = rest;
            }
            return (int) ((part == 0 ? above : below) / b);
        }

        int year(int z, int n, int what) {
            if (z < 0 || z > 9999 || n < 1 || n > 40 || what < 0 || what > 1) {
                return BAD;
            }
            World v = w.copy();
            int hams = 0;
            for (int k = 0; k < n; k++) {
                java.math.BigInteger x = java.math.BigInteger.valueOf(7919).multiply(java.math.BigInteger.valueOf(z))
                    .add(java.math.BigInteger.valueOf(6151L * k + 1));
                int draw = x.pow(2).mod(java.math.BigInteger.valueOf(65521)).intValue() / 2;
                if ((draw / 8) % 3 == 0) {
                    v.fed[draw % told.staff.size()] = true;
                }
                hams += go(v, dog(v.night)).hams;
            }
            return what == 0 ? v.till : hams;
        }

        int keep() {
            if (kept.size() == 2) {
                return FULL;
            }
            kept.addLast(w.copy());
            return kept.size();
        }

        int back() {
            if (kept.isEmpty()) {
                return NO;
            }
            w = kept.removeLast();
            undone.clear();
            return kept.size();
        }

        int count(int what) {
            if (what < 0 || what > 11) {
                return BAD;
            }
            return new int[] {told.staff.size(), told.customers.size(), w.quarrels.size(), w.night,
                tonight().walk.size(), w.till, w.drawer, w.hams, seen.size(), undone.size(), kept.size(),
                text.length()}[what];
        }
    }

    private final Random random;
    private final SleepersShop x = new SleepersShop();
    private final Model m = new Model("s0,1,2,0;s1,2,3,1;s2,1,1,0;s3,4,2,1;s0,2,4,2;q0,2;q1,3;"
        + "c0,1,0,12;c0,2,1,5;c1,4,2,30;c1,1,1,8;c2,2,0,9;c3,4,3,20;c4,1,2,15;h5;");
    private final List<String> calls = new ArrayList<>();
    private int got, want;

    private ModelRuns(int seed) {
        random = new Random(seed);
    }

    /** Mostly within low and high, now and then one outside or far away. */
    private int number(int low, int high) {
        int by = random.nextInt(60);
        return by == 0 ? low - 1 : by == 1 ? high + 1 : by == 2 ? random.nextInt()
            : low + random.nextInt(high - low + 1);
    }

    private int below(int end) {
        return random.nextInt(end);
    }

    private String item() {
        switch (below(7)) {
            case 0: case 1:
                return "s" + below(4) + "," + below(3) + "," + (below(3) == 0 ? 1 + below(10) : 1 + below(3)) + "," + below(10) + ";";
            case 2: case 3:
                return "q" + below(6) + "," + below(6) + ";";
            case 4: case 5:
                return "c" + (below(2) == 0 ? below(14) : below(4)) + "," + below(4) + "," + below(4) + "," + (1 + below(60)) + ";";
            default:
                return below(2) == 0 ? "h" + (1 + below(10)) + ";" : "";
        }
    }

    private String text() {
        StringBuilder all = new StringBuilder();
        int staff = 1 + below(7);
        for (int i = 0; i < staff; i++) {
            all.append("s" + below(4) + "," + below(3) + "," + (below(4) == 0 ? 1 + below(10) : 1 + below(2)) + "," + below(10) + ";");
        }
        int more = below(14);
        for (int i = 0; i < more; i++) {
            all.append(item());
        }
        if (below(4) == 0 && all.length() > 0) {
            String signs = "0123456789,;sqch -x";
            all.setCharAt(below(all.length()), signs.charAt(below(signs.length())));
        }
        return all.toString();
    }

    private void told(String call, int g, int w) {
        calls.add(call + " = " + g);
        got = g;
        want = w;
    }

    private void change() {
        switch (below(12)) {
            case 0: case 1: case 2: { int n = below(3) > 0 ? 1 : number(1, 14); told("pass(" + n + ")", x.pass(n), m.pass(n)); break; }
            case 3: case 4: { int s = number(0, 5); told("supper(" + s + ")", x.supper(s), m.supper(s)); break; }
            case 5: case 6: { int a = number(0, 5), b = number(0, 5); told("settle(" + a + ", " + b + ")", x.settle(a, b), m.settle(a, b)); break; }
            case 7: { int s = number(0, 5); told("lull(" + s + ")", x.lull(s), m.lull(s)); break; }
            case 8: told("undo()", x.undo(), m.undo()); break;
            case 9: told("keep()", x.keep(), m.keep()); break;
            case 10: if (below(3) == 0) { told("back()", x.back(), m.back()); } break;
            default:
                if (below(6) == 0) {
                    told("forget()", x.forget(), m.forget());
                } else {
                    int s = number(0, 5), t = number(0, 99);
                    boolean did = random.nextBoolean();
                    told("see(" + s + ", " + t + ", " + did + ")", x.see(s, t, did), m.see(s, t, did));
                }
        }
    }

    private void look() {
        switch (below(16)) {
            case 0: { int s = number(0, 5), w = number(0, 6); told("staff(" + s + ", " + w + ")", x.staff(s, w), m.staff(s, w)); break; }
            case 1: { int c = number(0, 9), w = number(0, 5); told("customer(" + c + ", " + w + ")", x.customer(c, w), m.customer(c, w)); break; }
            case 2: { int a = number(0, 5), b = number(0, 5); told("quarrel(" + a + ", " + b + ")", x.quarrel(a, b), m.quarrel(a, b)); break; }
            case 3: told("woken()", x.woken(), m.woken()); break;
            case 4: { int n = number(0, 28), w = number(0, 2); told("behind(" + n + ", " + w + ")", x.behind(n, w), m.behind(n, w)); break; }
            case 5: { int w = number(0, 1); told("ham(" + w + ")", x.ham(w), m.ham(w)); break; }
            case 6: { int w = number(0, 1); told("suppers(" + w + ")", x.suppers(w), m.suppers(w)); break; }
            case 7: { int n = number(1, 14), w = number(0, 1); told("apart(" + n + ", " + w + ")", x.apart(n, w), m.apart(n, w)); break; }
            case 8: { int c = number(0, 9); told("ask(" + c + ")", x.ask(c), m.ask(c)); break; }
            case 9: { int s = number(0, 5), w = number(0, 1); told("law(" + s + ", " + w + ")", x.law(s, w), m.law(s, w)); break; }
            case 10: { int c = number(0, 9); told("did(" + c + ")", x.did(c), m.did(c)); break; }
            case 11: { int n = number(0, 6), d = number(0, 10), p = number(0, 1); told("dogs(" + n + ", " + d + ", " + p + ")", x.dogs(n, d, p), m.dogs(n, d, p)); break; }
            case 12: { int z = number(0, 9999), n = number(1, 40), w = number(0, 1); told("year(" + z + ", " + n + ", " + w + ")", x.year(z, n, w), m.year(z, n, w)); break; }
            case 13: told("fault()", x.fault(), m.fault()); break;
            default: { int w = number(0, 11); told("count(" + w + ")", x.count(w), m.count(w)); }
        }
    }

    private void tellText() {
        told("wipe()", x.wipe(), m.wipe());
        String text = text();
        for (int i = 0; i < text.length() && got == want && calls.size() < CALLS; i++) {
            told("write('" + text.charAt(i) + "')", x.write(text.charAt(i)), m.write(text.charAt(i)));
        }
        if (got == want && calls.size() < CALLS) {
            told("fault()", x.fault(), m.fault());
        }
        if (got == want && calls.size() < CALLS) {
            told("lay()", x.lay(), m.lay());
        }
    }

    private boolean run() {
        while (calls.size() < CALLS && got == want) {
            int by = below(400);
            if (by < 2 || calls.isEmpty() && below(4) > 0) {
                tellText();
            } else if (by < 4) {
                int letter = number(32, 126);
                told("write(" + letter + ")", x.write(letter), m.write(letter));
            } else if (by < 5) {
                told("lay()", x.lay(), m.lay());
            } else if (by < 150) {
                change();
            } else {
                look();
            }
        }
        return got == want;
    }

    public static void main(String[] args) {
        int wrong = 0;
        int all = 0;
        for (int seed = 0; seed < RUNS && wrong < 5; seed++) {
            ModelRuns one = new ModelRuns(seed);
            if (!one.run()) {
                wrong++;
                System.out.println("run " + seed + ", the last answer is not as due (" + one.want + "): " + one.calls);
            }
            all += one.calls.size();
        }
        System.out.println(all + " drawn calls, " + wrong + " runs not as due");
        if (wrong != 0) {
            System.exit(1);
        }
    }
}
