/** A shop that somnambulists keep, told in a text; see README.md. */
public final class SleepersShop {
    public static final int BAD = -1, NO = -2, FULL = -3, NONE = -4;

    private static final int TEXT_LIMIT = 200;
    private static final int STAFF_LIMIT = 6;
    private static final int CUSTOMER_LIMIT = 10;
    private static final int QUARREL_LIMIT = 6;
    private static final int SEEN_LIMIT = 8;
    private static final int UNDO_LIMIT = 8;
    private static final int KEEP_LIMIT = 2;

    private static final int JUDGE = 0, GROCER = 1, POET = 2, MOTHER = 3;
    private static final int PLAINLY = 0, IN_RHYME = 1, AS_A_MOTHER = 2, IN_WHITE = 3;
    private static final int THINGS = 6;
    private static final int ROUND = 14;
    private static final int MOST_AHEAD = 28;
    private static final int MOST_PENCE = 60;
    private static final int PENCE_A_GROCER_SLEEPS_BY = 10;
    private static final int NIGHTS_AWAKE = 3;
    private static final int MOST_EVERY = 10;
    /** One place more than the last pair (4 and 5) has in a set of quarrels. */
    private static final int PAIR_PLACES = STAFF_LIMIT * (STAFF_LIMIT - 1);

    private static final String FIRST_SHOP =
        "s0,1,2,0;s1,2,3,1;s2,1,1,0;s3,4,2,1;s0,2,4,2;q0,2;q1,3;c0,1,0,12;c0,2,1,5;c1,4,2,30;c1,1,1,8;c2,2,0,9;c3,4,3,20;c4,1,2,15;h5;";

    private final Text text = new Text();
    private final Shop shop = new Shop();
    /** What a text is read into, so that a faulty one leaves the shop alone. */
    private final Shop draft = new Shop();
    private final Reader reader = new Reader(text, draft);
    private final Night night = new Night(shop);
    private final State now = new State();
    private final State trial = new State();
    private final Shelf undone = new Shelf(UNDO_LIMIT);
    private final Shelf kept = new Shelf(KEEP_LIMIT);
    private final Sightings seen = new Sightings();
    private final Choice choice = new Choice();

    public SleepersShop() {
        for (int i = 0; i < FIRST_SHOP.length(); i++) {
            text.add(FIRST_SHOP.charAt(i));
        }
        reader.read();
        openDraft();
        text.clear();
    }

    // ---- shops

    public int write(int letter) {
        if (letter < 32 || letter > 126) {
            return BAD;
        }
        if (text.length >= TEXT_LIMIT) {
            return FULL;
        }
        text.add(letter);
        return text.length;
    }

    public int wipe() {
        int length = text.length;
        text.clear();
        return length;
    }

    public int fault() {
        return reader.read();
    }

    public int lay() {
        if (reader.read() != NONE || draft.staffSize == 0) {
            return NO;
        }
        openDraft();
        return shop.staffSize;
    }

    public int staff(int s, int what) {
        if (!isStaff(s)) {
            return BAD;
        }
        switch (what) {
            case 0: return shop.kinds.at(s);
            case 1: return shop.skills.at(s);
            case 2: return shop.everies.at(s);
            case 3: return shop.offsets.at(s);
            case 4: return bit(walkersTonight(), s);
            case 5: return now.awake.at(s);
            case 6: return bit(now.fed, s);
            default: return BAD;
        }
    }

    public int customer(int c, int what) {
        if (!isCustomer(c)) {
            return BAD;
        }
        switch (what) {
            case 0: return shop.nights.at(c);
            case 1: return shop.things.at(c);
            case 2: return shop.ways.at(c);
            case 3: return shop.pences.at(c);
            case 4: return shop.comes(c, now.night) ? 1 : 0;
            case 5: return serverTonight(c);
            default: return BAD;
        }
    }

    public int quarrel(int a, int b) {
        if (!areTwoStaff(a, b)) {
            return BAD;
        }
        return bit(now.quarrels, pair(a, b));
    }

    public int woken() {
        playTonight();
        return night.wokenOnes;
    }

    // ---- nights

    public int pass(int n) {
        if (n < 1 || n > 14) {
            return BAD;
        }
        undone.put(now);
        goBy(now, n);
        return now.night;
    }

    public int supper(int s) {
        if (!isStaff(s)) {
            return BAD;
        }
        if (has(now.fed, s)) {
            return NO;
        }
        undone.put(now);
        now.fed |= 1 << s;
        return Integer.bitCount(now.fed);
    }

    public int settle(int a, int b) {
        if (!areTwoStaff(a, b)) {
            return BAD;
        }
        int place = pair(a, b);
        if (!has(now.quarrels, place) && Integer.bitCount(now.quarrels) >= QUARREL_LIMIT) {
            return FULL;
        }
        undone.put(now);
        now.quarrels ^= 1 << place;
        return bit(now.quarrels, place);
    }

    public int lull(int s) {
        if (!isStaff(s)) {
            return BAD;
        }
        int nights = now.awake.at(s);
        if (nights == 0) {
            return NO;
        }
        undone.put(now);
        now.awake.put(s, 0);
        return nights;
    }

    public int undo() {
        if (undone.size == 0) {
            return NO;
        }
        undone.takeInto(now);
        return undone.size;
    }

    // ---- what comes

    public int behind(int n, int what) {
        if (n < 0 || n > MOST_AHEAD || what < 0 || what > 2) {
            return BAD;
        }
        trial.copy(now);
        goBy(trial, n);
        return what == 0 ? trial.till : what == 1 ? trial.drawer : trial.hams;
    }

    public int ham(int what) {
        if (what < 0 || what > 1) {
            return BAD;
        }
        trial.copy(now);
        for (int n = 1; n <= MOST_AHEAD; n++) {
            goBy(trial, 1);
            if (night.hams > 0) {
                return what == 0 ? n : night.firstWithHam;
            }
        }
        return NONE;
    }

    public int suppers(int what) {
        if (what < 0 || what > 1) {
            return BAD;
        }
        choice.clear();
        for (int set = 0; set < 1 << shop.staffSize; set++) {
            if ((set & now.fed) == 0) {
                choice.offer(set, servedIfFed(set));
            }
        }
        return what == 0 ? choice.set : choice.served;
    }

    public int apart(int n, int what) {
        if (n < 1 || n > 14 || what < 0 || what > 1) {
            return BAD;
        }
        int sets = 1 << Integer.bitCount(now.quarrels);
        choice.clear();
        for (int set = 0; set < sets; set++) {
            choice.offer(set, servedIfMadeUp(set, n));
        }
        return what == 0 ? choice.served : choice.set;
    }

    public int ask(int c) {
        if (!isCustomer(c)) {
            return BAD;
        }
        if (!shop.comes(c, now.night)) {
            return NONE;
        }
        night.play(now, shop.hasDog(now.night), c);
        int asked = night.firstFor(shop.things.at(c));
        if (asked == NONE) {
            return NONE;
        }
        for (int way = PLAINLY; way <= IN_WHITE; way++) {
            if (!wakes(way, shop.pences.at(c), shop.kinds.at(asked))) {
                return way;
            }
        }
        return NONE;
    }

    // ---- what was seen

    public int see(int s, int t, boolean did) {
        if (!isStaff(s) || t < 0 || t > 99) {
            return BAD;
        }
        if (seen.size >= SEEN_LIMIT) {
            return FULL;
        }
        seen.add(s, t, did);
        return seen.size;
    }

    public int forget() {
        int size = seen.size;
        seen.clear();
        return size;
    }

    public int law(int s, int what) {
        if (!isStaff(s) || what < 0 || what > 1) {
            return BAD;
        }
        int laws = 0;
        int first = NONE;
        for (int every = 1; every <= MOST_EVERY; every++) {
            for (int offset = 0; offset < every; offset++) {
                if (seen.allow(s, every, offset)) {
                    first = laws == 0 ? 10 * every + offset : first;
                    laws++;
                }
            }
        }
        return what == 0 ? laws : first;
    }

    public int did(int c) {
        if (!isCustomer(c)) {
            return BAD;
        }
        int set = 0;
        for (int s = 0; s < shop.staffSize; s++) {
            if (has(shop.servers.at(shop.things.at(c)), s) && !shop.rouses(c, s)) {
                set |= 1 << s;
            }
        }
        return set;
    }

    // ---- dogs, years

    public int dogs(int n, int x, int part) {
        if (n < 0 || n > 6 || x < 0 || x > 10 || part < 0 || part > 1) {
            return BAD;
        }
        int above = 0;
        int below = 1;
        for (int dogNights = 0; dogNights < 1 << n; dogNights++) {
            if (isWithoutHam(n, dogNights)) {
                above += weight(n, x, dogNights);
            }
        }
        for (int i = 0; i < n; i++) {
            below *= 10;
        }
        return quotient(part == 0 ? above : below, sharedDivisor(above, below, n));
    }

    public int year(int z, int n, int what) {
        if (z < 0 || z > 9999 || n < 1 || n > 40 || what < 0 || what > 1) {
            return BAD;
        }
        trial.copy(now);
        for (int k = 0; k < n; k++) {
            int drawn = draw(z, k);
            if (drawn / 8 % 3 == 0) {
                trial.fed |= 1 << mod(drawn, shop.staffSize);
            }
            goBy(trial, 1);
        }
        return what == 0 ? trial.till : trial.hams - now.hams;
    }

    public int keep() {
        if (kept.size >= KEEP_LIMIT) {
            return FULL;
        }
        kept.put(now);
        return kept.size;
    }

    public int back() {
        if (kept.size == 0) {
            return NO;
        }
        kept.takeInto(now);
        undone.clear();
        return kept.size;
    }

    public int count(int what) {
        switch (what) {
            case 0: return shop.staffSize;
            case 1: return shop.customerSize;
            case 2: return Integer.bitCount(now.quarrels);
            case 3: return now.night;
            case 4: return Integer.bitCount(walkersTonight());
            case 5: return now.till;
            case 6: return now.drawer;
            case 7: return now.hams;
            case 8: return seen.size;
            case 9: return undone.size;
            case 10: return kept.size;
            case 11: return text.length;
            default: return BAD;
        }
    }

    // ---- what the calls share

    private void openDraft() {
        shop.copy(draft);
        now.begin(shop.quarrels);
        undone.clear();
        kept.clear();
        seen.clear();
    }

    private boolean isStaff(int s) {
        return s >= 0 && s < shop.staffSize;
    }

    private boolean isCustomer(int c) {
        return c >= 0 && c < shop.customerSize;
    }

    private boolean areTwoStaff(int a, int b) {
        return isStaff(a) && isStaff(b) && a != b;
    }

    private void goBy(State state, int nights) {
        for (int i = 0; i < nights; i++) {
            night.play(state, shop.hasDog(state.night), shop.customerSize);
            night.close(state);
        }
    }

    private void playTonight() {
        night.play(now, shop.hasDog(now.night), shop.customerSize);
    }

    private int walkersTonight() {
        night.open(now, shop.hasDog(now.night));
        return night.walkers;
    }

    private int serverTonight(int c) {
        playTonight();
        return night.sellers.at(c);
    }

    private int servedIfFed(int set) {
        trial.copy(now);
        trial.fed |= set;
        night.play(trial, shop.hasDog(trial.night), shop.customerSize);
        return night.served;
    }

    private int servedIfMadeUp(int set, int nights) {
        trial.copy(now);
        trial.quarrels = without(now.quarrels, set);
        int served = 0;
        for (int i = 0; i < nights; i++) {
            goBy(trial, 1);
            served += night.served;
        }
        return served;
    }

    /** The set counts only the quarrels that there are, so it's narrower than they. */
    private static int without(int quarrels, int set) {
        int left = quarrels;
        int number = 0;
        for (int place = 0; place < PAIR_PLACES; place++) {
            if (has(quarrels, place)) {
                left ^= bit(set, number) << place;
                number++;
            }
        }
        return left;
    }

    private boolean isWithoutHam(int nights, int dogNights) {
        trial.copy(now);
        for (int i = 0; i < nights; i++) {
            night.play(trial, has(dogNights, i), shop.customerSize);
            if (night.hams > 0) {
                return false;
            }
            night.close(trial);
        }
        return true;
    }

    private static int weight(int nights, int x, int dogNights) {
        int weight = 1;
        for (int i = 0; i < nights; i++) {
            weight *= has(dogNights, i) ? x : 10 - x;
        }
        return weight;
    }

    /** Below is ten to the power of n: 2 and 5 are all that above can share with it. */
    private static int sharedDivisor(int above, int below, int n) {
        int shared = 1;
        for (int i = 0; i < n; i++) {
            shared *= dividesBoth(2 * shared, above, below) ? 2 : 1;
            shared *= dividesBoth(5 * shared, above, below) ? 5 : 1;
        }
        return shared;
    }

    private static boolean dividesBoth(int divisor, int above, int below) {
        return divisor > 0 && above % divisor == 0 && below % divisor == 0;
    }

    private static int draw(int z, int k) {
        long x = 7919L * z + 6151L * k + 1;
        return (int) (x * x % 65521 / 2);
    }

    private static boolean wakes(int way, int pence, int kind) {
        switch (way) {
            case PLAINLY: return kind == POET || kind == GROCER && pence > PENCE_A_GROCER_SLEEPS_BY;
            case IN_RHYME: return kind == JUDGE;
            case AS_A_MOTHER: return kind == MOTHER;
            default: return false;
        }
    }

    /** By the lower, then the higher of both: so the pairs' places lie as they are numbered. */
    private static int pair(int a, int b) {
        return a < b ? STAFF_LIMIT * a + b : STAFF_LIMIT * b + a;
    }

    private static boolean has(int set, int i) {
        return (set >> i & 1) == 1;
    }

    private static int bit(int set, int i) {
        return set >> i & 1;
    }

    private static int mod(int number, int divisor) {
        return divisor > 0 ? number % divisor : 0;
    }

    private static int quotient(int number, int divisor) {
        return divisor > 0 ? number / divisor : 0;
    }

    private static boolean isWithin(int number, int low, int high) {
        return number >= low && number <= high;
    }

    /** Numbers whose index is tested here, once for all: outside there is 0, and nothing is put. */
    private static final class Row {
        private final int[] cells;

        Row(int length) {
            cells = new int[length > 0 ? length : 0];
        }

        int at(int i) {
            return i >= 0 && i < cells.length ? cells[i] : 0;
        }

        void put(int i, int number) {
            if (i >= 0 && i < cells.length) {
                cells[i] = number;
            }
        }

        void fill(int number) {
            for (int i = 0; i < cells.length; i++) {
                cells[i] = number;
            }
        }

        void copy(Row other) {
            for (int i = 0; i < cells.length; i++) {
                cells[i] = other.at(i);
            }
        }
    }

    private static final class Text {
        private final int[] letters = new int[TEXT_LIMIT];
        private int length;

        void clear() {
            length = 0;
        }

        void add(int letter) {
            if (length >= 0 && length < letters.length) {
                letters[length] = letter;
                length++;
            }
        }

        /** Behind the end there is 0: what was wiped is no letter of the text. */
        int letter(int i) {
            return i >= 0 && i < length && i < letters.length ? letters[i] : 0;
        }
    }

    /** What a text tells: it stays as it is while nights go by. */
    private static final class Shop {
        private final Row kinds = new Row(STAFF_LIMIT);
        private final Row skills = new Row(STAFF_LIMIT);
        private final Row everies = new Row(STAFF_LIMIT);
        private final Row offsets = new Row(STAFF_LIMIT);
        private final Row nights = new Row(CUSTOMER_LIMIT);
        private final Row things = new Row(CUSTOMER_LIMIT);
        private final Row ways = new Row(CUSTOMER_LIMIT);
        private final Row pences = new Row(CUSTOMER_LIMIT);
        /** Of each thing, who serves it, as bits. */
        private final Row servers = new Row(THINGS);
        private int staffSize;
        private int customerSize;
        private int quarrels;
        /** 0 if none is told. */
        private int dogEvery;

        void clear() {
            servers.fill(0);
            staffSize = 0;
            customerSize = 0;
            quarrels = 0;
            dogEvery = 0;
        }

        void copy(Shop other) {
            kinds.copy(other.kinds);
            skills.copy(other.skills);
            everies.copy(other.everies);
            offsets.copy(other.offsets);
            nights.copy(other.nights);
            things.copy(other.things);
            ways.copy(other.ways);
            pences.copy(other.pences);
            servers.copy(other.servers);
            staffSize = other.staffSize;
            customerSize = other.customerSize;
            quarrels = other.quarrels;
            dogEvery = other.dogEvery;
        }

        boolean hasDog(int night) {
            return dogEvery > 0 && mod(night, dogEvery) == 0;
        }

        boolean isDue(int s, int night) {
            int every = everies.at(s);
            return mod(night, every) == mod(offsets.at(s), every);
        }

        boolean comes(int c, int night) {
            return nights.at(c) == mod(night, ROUND);
        }

        void addServer(int s, int thing) {
            servers.put(thing, servers.at(thing) | 1 << s);
        }

        boolean rouses(int c, int s) {
            return wakes(ways.at(c), pences.at(c), kinds.at(s));
        }
    }

    /** Reads the text into the draft, item by item, up to the first faulty one. */
    private static final class Reader {
        private final Text text;
        private final Shop draft;
        private final Row numbers = new Row(4);
        private int place;

        Reader(Text text, Shop draft) {
            this.text = text;
            this.draft = draft;
        }

        int read() {
            draft.clear();
            place = 0;
            for (int items = 0; items < TEXT_LIMIT && place < text.length; items++) {
                int start = place;
                if (!readItem()) {
                    return start;
                }
            }
            return NONE;
        }

        private boolean readItem() {
            int letter = text.letter(place);
            place++;
            switch (letter) {
                case 's': return readNumbers(4) && takeStaff();
                case 'q': return readNumbers(2) && takeQuarrel();
                case 'c': return readNumbers(4) && takeCustomer();
                case 'h': return readNumbers(1) && takeDog();
                default: return false;
            }
        }

        private boolean readNumbers(int many) {
            for (int i = 0; i < many; i++) {
                int number = readNumber();
                if (number < 0 || text.letter(place) != (i < many - 1 ? ',' : ';')) {
                    return false;
                }
                numbers.put(i, number);
                place++;
            }
            return true;
        }

        private int readNumber() {
            int first = figure();
            if (first < 0) {
                return first;
            }
            place++;
            int second = figure();
            if (second < 0) {
                return first;
            }
            place++;
            return 10 * first + second;
        }

        private int figure() {
            int letter = text.letter(place);
            return isWithin(letter, '0', '9') ? letter - '0' : NONE;
        }

        private boolean takeStaff() {
            int s = draft.staffSize;
            if (s >= STAFF_LIMIT || !isWithin(numbers.at(0), JUDGE, MOTHER)
                    || !isWithin(numbers.at(1), 0, THINGS - 1)
                    || !isWithin(numbers.at(2), 1, MOST_EVERY) || !isWithin(numbers.at(3), 0, 9)) {
                return false;
            }
            draft.kinds.put(s, numbers.at(0));
            draft.skills.put(s, numbers.at(1));
            draft.everies.put(s, numbers.at(2));
            draft.offsets.put(s, numbers.at(3));
            draft.addServer(s, numbers.at(1));
            draft.addServer(s, mod(numbers.at(1) + 1, THINGS));
            draft.staffSize = s + 1;
            return true;
        }

        private boolean takeQuarrel() {
            int a = numbers.at(0);
            int b = numbers.at(1);
            if (a == b || Math.max(a, b) >= draft.staffSize) {
                return false;
            }
            draft.quarrels ^= 1 << pair(a, b);
            return Integer.bitCount(draft.quarrels) <= QUARREL_LIMIT;
        }

        private boolean takeCustomer() {
            int c = draft.customerSize;
            if (c >= CUSTOMER_LIMIT || !isWithin(numbers.at(0), 0, ROUND - 1)
                    || !isWithin(numbers.at(1), 0, THINGS - 1)
                    || !isWithin(numbers.at(2), PLAINLY, IN_WHITE)
                    || !isWithin(numbers.at(3), 1, MOST_PENCE)) {
                return false;
            }
            draft.nights.put(c, numbers.at(0));
            draft.things.put(c, numbers.at(1));
            draft.ways.put(c, numbers.at(2));
            draft.pences.put(c, numbers.at(3));
            draft.customerSize = c + 1;
            return true;
        }

        private boolean takeDog() {
            draft.dogEvery = numbers.at(0);
            return isWithin(draft.dogEvery, 1, MOST_EVERY);
        }
    }

    /** What changes as nights go by: all that is undone or kept. Sets are bits. */
    private static final class State {
        private int night;
        private int till;
        private int drawer;
        private int hams;
        private int quarrels;
        private int fed;
        private final Row awake = new Row(STAFF_LIMIT);

        void begin(int toldQuarrels) {
            night = 0;
            till = 0;
            drawer = 0;
            hams = 0;
            quarrels = toldQuarrels;
            fed = 0;
            awake.fill(0);
        }

        void copy(State other) {
            night = other.night;
            till = other.till;
            drawer = other.drawer;
            hams = other.hams;
            quarrels = other.quarrels;
            fed = other.fed;
            awake.copy(other.awake);
        }
    }

    /** One night of the shop, played out on its own: only close() changes a state. */
    private static final class Night {
        private final Shop shop;
        /** Of each customer, who served him; NONE. */
        private final Row sellers = new Row(CUSTOMER_LIMIT);
        private int walkers;
        private int wokenOnes;
        private int served;
        private int hams;
        private int firstWithHam;
        private int till;
        private int drawer;

        Night(Shop shop) {
            this.shop = shop;
        }

        /** Of the customers, those ahead of the end come. */
        void play(State state, boolean dog, int end) {
            open(state, dog);
            for (int c = 0; c < end; c++) {
                if (shop.comes(c, state.night)) {
                    attend(c);
                }
            }
        }

        void open(State state, boolean dog) {
            walkers = 0;
            wokenOnes = 0;
            served = 0;
            hams = 0;
            firstWithHam = NONE;
            till = 0;
            drawer = 0;
            sellers.fill(NONE);
            for (int s = 0; s < shop.staffSize && !dog; s++) {
                if (shop.isDue(s, state.night) && state.awake.at(s) == 0
                        && !has(state.fed, s) && !isBarred(s, state.quarrels)) {
                    walkers |= 1 << s;
                }
            }
        }

        private boolean isBarred(int s, int quarrels) {
            for (int lower = 0; lower < s; lower++) {
                if (has(walkers, lower) && has(quarrels, pair(lower, s))) {
                    return true;
                }
            }
            return false;
        }

        private void attend(int c) {
            int thing = shop.things.at(c);
            for (int s = 0; s < shop.staffSize; s++) {
                if (isReadyFor(s, thing)) {
                    if (!shop.rouses(c, s)) {
                        sell(c, s);
                        return;
                    }
                    wokenOnes |= 1 << s;
                }
            }
            firstWithHam = hams == 0 ? c : firstWithHam;
            hams++;
        }

        private boolean isReadyFor(int s, int thing) {
            return has(walkers & ~wokenOnes & shop.servers.at(thing), s);
        }

        int firstFor(int thing) {
            for (int s = 0; s < shop.staffSize; s++) {
                if (isReadyFor(s, thing)) {
                    return s;
                }
            }
            return NONE;
        }

        private void sell(int c, int s) {
            int pence = shop.ways.at(c) == IN_WHITE ? 0 : shop.pences.at(c);
            int hidden = pence * 9 / 100;
            sellers.put(c, s);
            served++;
            drawer += hidden;
            till += pence - hidden;
        }

        void close(State state) {
            for (int s = 0; s < shop.staffSize; s++) {
                int left = Math.max(state.awake.at(s) - 1, 0);
                state.awake.put(s, has(wokenOnes, s) ? NIGHTS_AWAKE : left);
            }
            state.fed = 0;
            state.till += till;
            state.drawer += drawer;
            state.hams += hams;
            state.night++;
        }
    }

    /** States one upon the other; the same objects are used again and again. */
    private static final class Shelf {
        private final State[] states;
        private int size;

        Shelf(int limit) {
            states = new State[limit > 0 ? limit : 0];
            for (int i = 0; i < states.length; i++) {
                states[i] = new State();
            }
        }

        void clear() {
            size = 0;
        }

        /** A full shelf lets its oldest go. */
        void put(State state) {
            if (size >= states.length) {
                dropOldest();
            }
            if (size >= 0 && size < states.length && states[size] != null) {
                states[size].copy(state);
                size++;
            }
        }

        private void dropOldest() {
            if (states.length == 0) {
                return;
            }
            State oldest = states[0];
            for (int i = 1; i < states.length; i++) {
                states[i - 1] = states[i];
            }
            states[states.length - 1] = oldest;
            size = states.length - 1;
        }

        void takeInto(State state) {
            int top = size - 1;
            if (top >= 0 && top < states.length && states[top] != null) {
                state.copy(states[top]);
                size = top;
            }
        }
    }

    /** Who was seen to walk, or not to. */
    private static final class Sightings {
        private final Row who = new Row(SEEN_LIMIT);
        private final Row when = new Row(SEEN_LIMIT);
        private final Row walked = new Row(SEEN_LIMIT);
        private int size;

        void clear() {
            size = 0;
        }

        void add(int s, int night, boolean did) {
            who.put(size, s);
            when.put(size, night);
            walked.put(size, did ? 1 : 0);
            size++;
        }

        boolean allow(int s, int every, int offset) {
            for (int i = 0; i < size; i++) {
                boolean isNight = mod(when.at(i), every) == offset;
                if (who.at(i) == s && isNight != (walked.at(i) == 1)) {
                    return false;
                }
            }
            return true;
        }
    }

    /** The best of sets that are offered lowest first: most served, then the fewest in it. */
    private static final class Choice {
        private int set;
        private int served;

        void clear() {
            set = 0;
            served = NONE;
        }

        void offer(int newSet, int newServed) {
            if (newServed > served || newServed == served
                    && Integer.bitCount(newSet) < Integer.bitCount(set)) {
                set = newSet;
                served = newServed;
            }
        }
    }
}
