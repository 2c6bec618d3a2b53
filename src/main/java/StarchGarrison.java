import java.util.Arrays;

/** A garrison whose courage is starch: DOC.md tells, promise by promise, what each call answers. */
public final class StarchGarrison {
    public static final int NONE = -1;

    private static final int NO_SUCH = -2;
    private static final int TOO_FEW = -3;
    private static final int FAULTY = -4;
    private static final int NOT_BY_ACTS = -5;
    private static final int NOTHING = -6;
    private static final int BEYOND = -7;
    private static final int OTHER_WIDTH = -8;
    private static final int NO_SUCH_AMOUNT = -1000;

    private static final int MOST_MEN = 6;
    private static final int MOST_HOURS = 24;
    private static final int MOST_ACTS = 30;
    private static final int MOST_BYTES = 800;
    private static final int MOST_NUMBERS = 60;
    private static final int MOST_NEEDS = 60;
    private static final int MOST_SHARED = 6;
    private static final int MOST_STIFF = 99;
    private static final int MOST_PACKETS_AT_ONCE = 9;
    private static final int MOST_SIEGES = 20;
    private static final int LAST_CHANCE_HOUR = 8;
    private static final int LAWS = 4;
    private static final int IMAGES = 3;
    private static final int SLOTS = 4;
    private static final int WIDTHS = 4;
    private static final int GREATEST_SEED = 2000000000;

    private static final int PACKET_GAIN = 10;
    private static final int IRON_GAIN = 7;
    private static final int CRACKS_ABOVE = 70;
    private static final int DAMP_LOSS = 4;
    private static final int PACKET_PRICE = 2;

    private static final int HOURS = 0;
    private static final int LAW = 1;
    private static final int GAP = 2;
    private static final int PACKETS = 3;
    private static final int WEEVILS = 4;
    private static final int ODDS = 5;
    private static final int SETTINGS = 6;
    private static final int[] SETTING_LEAST = {1, 0, 0, 0, 0, 0};
    private static final int[] SETTING_MOST = {24, 3, 3, 60, 9, 10};

    private final byte[] tape = new byte[MOST_BYTES];
    private int tapeLength;
    private final Plan plan = new Plan();
    private final Plan draft = new Plan();
    private final Reader reader = new Reader(tape);
    private final Plan[] images = {new Plan(), new Plan(), new Plan()};
    private int imagesKept;
    private final Row[] slots = {new Row(), new Row(), new Row(), new Row()};
    private final Siege siege = new Siege(plan);
    private final Sharing sharing = new Sharing(plan, siege);
    private final Ordering ordering = new Ordering(plan, siege);
    private final Ironing ironing = new Ironing(plan, siege);
    private final Sighting sighting = new Sighting(plan, siege);
    private final Weather weather = new Weather(plan, siege);

    public StarchGarrison() {
    }

    // ---- the TAPE and what is told by it ----

    public int feed(int a, int b, int c, int d, int e) {
        if (tapeLength + 20 > MOST_BYTES) {
            return NONE;
        }
        putFourBytes(a);
        putFourBytes(b);
        putFourBytes(c);
        putFourBytes(d);
        putFourBytes(e);
        return tapeLength;
    }

    private void putFourBytes(int number) {
        for (int shift = 24; shift >= 0 && tapeLength < MOST_BYTES; shift -= 8) {
            tape[tapeLength] = (byte) (number >> shift);
            tapeLength++;
        }
    }

    public int end(int n) {
        if (n < 0 || n > tapeLength) {
            return NONE;
        }
        tapeLength = n;
        return n;
    }

    public int garrison() {
        if (!reader.reads(draft, tapeLength)) {
            return FAULTY;
        }
        plan.become(draft);
        tapeLength = 0;
        return plan.lines;
    }

    public int fault(int what) {
        if (what == 0) {
            return reader.faultKind;
        }
        if (what == 1) {
            return reader.faultPlace;
        }
        return NONE;
    }

    public int man(int man, int what) {
        if (!plan.isMan(man)) {
            return NO_SUCH;
        }
        switch (what) {
            case 0:
                return plan.told[man];
            case 1:
                return plan.sweats[man];
            case 2:
                return plan.needs[man];
            case 3:
                return plan.boiled[man];
            default:
                return NO_SUCH;
        }
    }

    public int rain(int hour) {
        return plan.isHour(hour) ? plan.rains[hour] : NO_SUCH;
    }

    public int heat(int hour) {
        return plan.isHour(hour) ? plan.heats[hour] : NO_SUCH;
    }

    public int frosts() {
        if (!plan.isTold()) {
            return NO_SUCH;
        }
        int bits = 0;
        for (int hour = 0; hour < plan.hourCount(); hour++) {
            if (plan.isFrost(hour)) {
                bits |= 1 << hour;
            }
        }
        return bits;
    }

    // ---- the siege as now ----

    public int stiff(int man, int hour) {
        if (!plan.isMan(man) || !plan.isHour(hour)) {
            return NO_SUCH;
        }
        siege.playAsNow();
        return siege.stiffAt(man, hour);
    }

    public int loses(int man, int hour) {
        if (!plan.isMan(man) || !plan.isHour(hour)) {
            return NO_SUCH;
        }
        siege.playAsNow();
        return siege.lossAt(man, hour);
    }

    public int stands(int hour) {
        if (!plan.isHour(hour)) {
            return NO_SUCH;
        }
        siege.playAsNow();
        return plan.allMen() & ~siege.saggingAt(hour);
    }

    public int gives(int man) {
        if (!plan.isMan(man)) {
            return NO_SUCH;
        }
        siege.playAsNow();
        return siege.firstSag(man);
    }

    public int hours(int man) {
        if (!plan.isMan(man)) {
            return NO_SUCH;
        }
        siege.playAsNow();
        return siege.hoursStood(man);
    }

    public int cracks(int man) {
        if (!plan.isMan(man)) {
            return NO_SUCH;
        }
        siege.playAsNow();
        return siege.crackedAt[man];
    }

    public int broken() {
        if (!plan.isTold()) {
            return NO_SUCH;
        }
        siege.playAsNow();
        int bits = 0;
        for (int man = 0; man < plan.men; man++) {
            if (siege.crackedAt[man] != NONE) {
                bits |= 1 << man;
            }
        }
        return bits;
    }

    public int gap(int hour) {
        if (!plan.isHour(hour)) {
            return NO_SUCH;
        }
        siege.playAsNow();
        return siege.widestGap(hour);
    }

    public int holds() {
        if (!plan.isTold()) {
            return NO_SUCH;
        }
        siege.playAsNow();
        int bits = 0;
        for (int hour = 0; hour < plan.hourCount(); hour++) {
            if (siege.lineHolds(hour)) {
                bits |= 1 << hour;
            }
        }
        return bits;
    }

    public int falls() {
        if (!plan.isTold()) {
            return NO_SUCH;
        }
        siege.setAsNow();
        return siege.firstFall();
    }

    public int weakest(int hour) {
        if (!plan.isHour(hour)) {
            return NO_SUCH;
        }
        siege.playAsNow();
        int found = NONE;
        for (int man = 0; man < plan.men; man++) {
            if (found == NONE || siege.stiffAt(man, hour) < siege.stiffAt(found, hour)) {
                found = man;
            }
        }
        return found;
    }

    public int all(int hour) {
        if (!plan.isHour(hour)) {
            return NO_SUCH;
        }
        siege.playAsNow();
        int sum = 0;
        for (int man = 0; man < plan.men; man++) {
            sum += siege.stiffAt(man, hour);
        }
        return sum;
    }

    public int spare(int man, int hour) {
        if (!plan.isMan(man) || !plan.isHour(hour)) {
            return NO_SUCH_AMOUNT;
        }
        siege.playAsNow();
        return siege.stiffAt(man, hour) - plan.needs[man];
    }

    public int stiffest(int hour) {
        if (!plan.isHour(hour)) {
            return NO_SUCH;
        }
        siege.playAsNow();
        int found = NONE;
        for (int man = 0; man < plan.men; man++) {
            if (found == NONE || siege.stiffAt(man, hour) > siege.stiffAt(found, hour)) {
                found = man;
            }
        }
        return found;
    }

    public int sags(int hour) {
        if (!plan.isHour(hour)) {
            return NO_SUCH;
        }
        siege.playAsNow();
        return siege.saggingAt(hour);
    }

    public int spell() {
        if (!plan.isTold()) {
            return NO_SUCH;
        }
        siege.playAsNow();
        int longest = 0;
        int lasting = 0;
        for (int hour = 0; hour < plan.hourCount(); hour++) {
            lasting = siege.lineHolds(hour) ? lasting + 1 : 0;
            longest = Math.max(longest, lasting);
        }
        return longest;
    }

    public int rises(int man) {
        if (!plan.isMan(man)) {
            return NO_SUCH;
        }
        siege.playAsNow();
        int times = 0;
        for (int hour = 1; hour < plan.hourCount(); hour++) {
            if (siege.standsAt(man, hour) && !siege.standsAt(man, hour - 1)) {
                times++;
            }
        }
        return times;
    }

    public int lost(int man) {
        if (!plan.isMan(man)) {
            return NO_SUCH;
        }
        siege.playAsNow();
        int sum = 0;
        // The last HOUR has no next one, so nothing is lost behind it.
        for (int hour = 0; hour + 1 < plan.hourCount(); hour++) {
            sum += Math.min(siege.stiffAt(man, hour), siege.lossAt(man, hour));
        }
        return sum;
    }

    public int dry() {
        if (!plan.isTold()) {
            return NO_SUCH;
        }
        int bits = 0;
        for (int hour = 0; hour < plan.hourCount(); hour++) {
            if (plan.rains[hour] == 0 && !plan.isFrost(hour)) {
                bits |= 1 << hour;
            }
        }
        return bits;
    }

    public int drummer() {
        if (!plan.isTold()) {
            return NO_SUCH;
        }
        siege.playAsNow();
        int found = NONE;
        int most = 0;
        for (int man = 0; man < plan.men; man++) {
            int stood = siege.hoursStood(man);
            if (stood > most) {
                most = stood;
                found = man;
            }
        }
        return found;
    }

    // ---- if something were otherwise ----

    public int bears(int man) {
        if (!plan.isMan(man)) {
            return NO_SUCH;
        }
        siege.playAsNow();
        int borne = MOST_NEEDS;
        for (int hour = 0; hour < plan.hourCount(); hour++) {
            borne = Math.min(borne, siege.stiffAt(man, hour));
        }
        return borne >= 1 ? borne : NONE;
    }

    public int boil(int man) {
        if (!plan.isMan(man)) {
            return NO_SUCH;
        }
        siege.setAsNow();
        siege.boiled[man] = 1 - plan.boiled[man];
        siege.playAll();
        return siege.firstSag(man);
    }

    public int gain(int man, int hour) {
        if (!plan.isMan(man) || !plan.isHour(hour)) {
            return NO_SUCH_AMOUNT;
        }
        siege.playAsNow();
        int stoodNow = siege.hoursStood(man);
        siege.starchBesides(man, hour, 1);
        siege.playAll();
        return siege.hoursStood(man) - stoodNow;
    }

    public int helps(int hour) {
        if (!plan.isHour(hour)) {
            return NO_SUCH;
        }
        siege.setAsNow();
        int longest = siege.hoursHeld();
        int found = NONE;
        for (int man = 0; man < plan.men; man++) {
            siege.starchBesides(man, hour, 1);
            int held = siege.hoursHeld();
            siege.starchBesides(man, hour, -1);
            if (held > longest) {
                longest = held;
                found = man;
            }
        }
        return found;
    }

    public int stock(int hour) {
        return plan.isHour(hour) ? plan.packetsLeft(hour) : NO_SUCH;
    }

    public int eaten() {
        return plan.isTold() ? plan.packetsEaten() : NO_SUCH;
    }

    public int empty() {
        if (!plan.isTold()) {
            return NO_SUCH;
        }
        for (int hour = 0; hour < plan.hourCount(); hour++) {
            if (plan.packetsLeft(hour) == 0) {
                return hour;
            }
        }
        return NONE;
    }

    public int wants(int man, int hour) {
        if (!plan.isMan(man) || !plan.isHour(hour)) {
            return NO_SUCH;
        }
        siege.setAsNow();
        for (int told = 0; told <= MOST_STIFF; told++) {
            siege.told[man] = told;
            if (siege.standsThrough(man, hour)) {
                return told;
            }
        }
        return NONE;
    }

    // ---- PACKETS shared, MEN in orders, HOURS of ironing ----

    public int hold(int n) {
        if (!plan.isTold() || !isShared(n)) {
            return NO_SUCH;
        }
        sharing.search(n);
        return sharing.lastHeld();
    }

    private static boolean isShared(int n) {
        return n >= 0 && n <= MOST_SHARED;
    }

    public int share(int n, int man) {
        if (!plan.isMan(man) || !isShared(n)) {
            return NO_SUCH;
        }
        sharing.search(n);
        return sharing.first[man];
    }

    public int shares(int n) {
        if (!plan.isTold() || !isShared(n)) {
            return NO_SUCH;
        }
        sharing.search(n);
        return sharing.ways;
    }

    public int fewest(int hour) {
        if (!plan.isHour(hour)) {
            return NO_SUCH;
        }
        for (int n = 0; n <= MOST_SHARED; n++) {
            if (sharing.holdsThrough(hour, n)) {
                return n;
            }
        }
        return NONE;
    }

    public int ordered() {
        if (!plan.isTold()) {
            return NO_SUCH;
        }
        ordering.search();
        return ordering.longest - 1;
    }

    public int order(int i) {
        if (!plan.isMan(i)) {
            return NO_SUCH;
        }
        ordering.search();
        return ordering.first[i];
    }

    public int change() {
        return plan.isTold() ? ordering.bestChange() : NO_SUCH;
    }

    public int irons(int man) {
        if (!plan.isMan(man)) {
            return NO_SUCH;
        }
        ironing.search(man);
        return ironing.fewestHours();
    }

    public int ironed(int man) {
        if (!plan.isMan(man)) {
            return NO_SUCH;
        }
        ironing.search(man);
        return ironing.leastSet();
    }

    // ---- how STIFF one was, and by which LAW, by what was seen ----

    public int stiffs(int slot, int man) {
        int refused = sight(slot, man);
        return refused != 0 ? refused : sighting.ways;
    }

    /** Weighs a SLOT's row for a MAN: 0, or the answer that refuses it. */
    private int sight(int slot, int man) {
        if (!isSlot(slot) || !plan.isMan(man)) {
            return NO_SUCH;
        }
        if (!slots[slot].isThere()) {
            return NOTHING;
        }
        if (!sighting.fitsPairs(slots[slot])) {
            return NO_SUCH;
        }
        sighting.weigh(slots[slot], man);
        return 0;
    }

    private static boolean isSlot(int slot) {
        return slot >= 0 && slot < SLOTS;
    }

    public int least(int slot, int man) {
        int refused = sight(slot, man);
        return refused != 0 ? refused : sighting.lowest;
    }

    public int most(int slot, int man) {
        int refused = sight(slot, man);
        return refused != 0 ? refused : sighting.highest;
    }

    public int ask(int slot, int man) {
        int refused = sight(slot, man);
        return refused != 0 ? refused : sighting.bestQuestion();
    }

    public int soon(int slot, int man) {
        int refused = sight(slot, man);
        return refused != 0 ? refused : sighting.soonest;
    }

    public int late(int slot, int man) {
        int refused = sight(slot, man);
        return refused != 0 ? refused : sighting.latest;
    }

    public int laws(int slot) {
        if (!isSlot(slot) || !plan.isTold()) {
            return NO_SUCH;
        }
        if (!slots[slot].isThere()) {
            return NOTHING;
        }
        if (!sighting.fitsTriples(slots[slot])) {
            return NO_SUCH;
        }
        return sighting.lawsOf(slots[slot]);
    }

    public int by(int law) {
        if (!plan.isTold() || law < 0 || law >= LAWS) {
            return NO_SUCH;
        }
        siege.setAsNow();
        siege.lawNow = law;
        return siege.firstFall();
    }

    public int law() {
        if (!plan.isTold()) {
            return NO_SUCH;
        }
        siege.setAsNow();
        int found = NONE;
        int longest = NONE;
        for (int law = 0; law < LAWS; law++) {
            siege.lawNow = law;
            int held = siege.hoursHeld();
            if (held > longest) {
                longest = held;
                found = law;
            }
        }
        return found;
    }

    // ---- two who take PACKETS ----

    public int rests(int man, int other) {
        if (!isPair(man, other)) {
            return NO_SUCH;
        }
        int bits = 0;
        for (int pair = 0; pair < 4; pair++) {
            int takes = pair & 1;
            int otherTakes = pair >> 1;
            if (isContent(man, other, takes, otherTakes) && isContent(other, man, otherTakes, takes)) {
                bits |= 1 << pair;
            }
        }
        return bits;
    }

    private boolean isPair(int man, int other) {
        return plan.isMan(man) && plan.isMan(other) && man != other;
    }

    private boolean isContent(int man, int other, int takes, int otherTakes) {
        return payOf(man, other, takes, otherTakes) >= payOf(man, other, 1 - takes, otherTakes);
    }

    private int payOf(int man, int other, int takes, int otherTakes) {
        siege.setAsNow();
        siege.starchBesides(man, 0, takes);
        siege.starchBesides(other, 0, otherTakes);
        siege.playAll();
        return siege.hoursStood(man) - PACKET_PRICE * takes;
    }

    public int gets(int man, int other, int takes, int otherTakes) {
        if (!isPair(man, other) || !isChoice(takes) || !isChoice(otherTakes)) {
            return NO_SUCH_AMOUNT;
        }
        return payOf(man, other, takes, otherTakes);
    }

    private static boolean isChoice(int choice) {
        return choice == 0 || choice == 1;
    }

    // ---- DAMP by chance ----

    public long chance(int man, int hour, int what) {
        if (!plan.isMan(man) || !isChanceHour(hour) || !isChoice(what)) {
            return NO_SUCH;
        }
        weather.sum(Weather.STANDING, man, hour);
        return weather.part(what);
    }

    private boolean isChanceHour(int hour) {
        return plan.isHour(hour) && hour <= LAST_CHANCE_HOUR;
    }

    public long line(int hour, int what) {
        if (!isChanceHour(hour) || !isChoice(what)) {
            return NO_SUCH;
        }
        weather.sum(Weather.HOLDING, NONE, hour);
        return weather.part(what);
    }

    public long mean(int man, int hour, int what) {
        if (!plan.isMan(man) || !isChanceHour(hour) || !isChoice(what)) {
            return NO_SUCH;
        }
        weather.sum(Weather.STIFFNESS, man, hour);
        return weather.part(what);
    }

    // ---- acts ----

    public int starch(int man, int hour, int n) {
        if (!plan.isMan(man) || !plan.isHour(hour) || n < 1 || n > MOST_PACKETS_AT_ONCE) {
            return NO_SUCH;
        }
        if (plan.acts >= MOST_ACTS) {
            return NOT_BY_ACTS;
        }
        plan.act(man, hour, n);
        if (!plan.packetsSuffice()) {
            plan.keepActs(plan.acts - 1);
            return TOO_FEW;
        }
        siege.playAsNow();
        return siege.stiffAt(man, hour);
    }

    public int iron(int man, int hour) {
        if (!plan.isMan(man) || !plan.isHour(hour)) {
            return NO_SUCH;
        }
        if (plan.acts >= MOST_ACTS) {
            return NOT_BY_ACTS;
        }
        plan.act(man, hour, 0);
        siege.playAsNow();
        return siege.stiffAt(man, hour);
    }

    public int undo() {
        if (!plan.isTold()) {
            return NO_SUCH;
        }
        if (plan.acts == 0) {
            return NOT_BY_ACTS;
        }
        plan.keepActs(plan.acts - 1);
        return plan.acts;
    }

    public int anew() {
        if (!plan.isTold()) {
            return NO_SUCH;
        }
        int taken = plan.acts;
        plan.keepActs(0);
        return taken;
    }

    public int drawn(int seed, int what) {
        if (!plan.isTold() || !isSeed(seed) || !isChoice(what)) {
            return NO_SUCH;
        }
        int damp = weather.drawDamp(seed);
        if (what == 0) {
            return damp;
        }
        siege.setAsNow();
        siege.dampHours = damp;
        return siege.firstFall();
    }

    private static boolean isSeed(int seed) {
        return seed >= 0 && seed <= GREATEST_SEED;
    }

    public int luck(int seed, int n, int man) {
        if (!plan.isMan(man) || !isSeed(seed) || n < 1 || n > MOST_SIEGES) {
            return NO_SUCH;
        }
        siege.setAsNow();
        int times = 0;
        for (int i = 0; i < n; i++) {
            siege.dampHours = weather.drawDamp(seed + i);
            siege.playAll();
            if (siege.standsAt(man, plan.hourCount() - 1)) {
                times++;
            }
        }
        return times;
    }

    public int rate(int man, int n) {
        if (!plan.isMan(man) || n < 1 || n > MOST_NEEDS) {
            return NO_SUCH;
        }
        if (plan.acts > 0) {
            return NOT_BY_ACTS;
        }
        int was = plan.needs[man];
        plan.setNeeds(man, n);
        return was;
    }

    public int count(int what) {
        if (what >= 0 && what < SETTINGS) {
            return plan.settings[what];
        }
        switch (what) {
            case 6:
                return plan.men;
            case 7:
                return plan.acts;
            case 8:
                return plan.lines;
            case 9:
                return tapeLength;
            case 10:
                return rowsThere();
            default:
                return NONE;
        }
    }

    private int rowsThere() {
        int rows = 0;
        for (int slot = 0; slot < SLOTS; slot++) {
            if (slots[slot].isThere()) {
                rows++;
            }
        }
        return rows;
    }

    // ---- IMAGES and SLOTS ----

    public int image(int k) {
        if (k < 0 || k >= IMAGES) {
            return NO_SUCH;
        }
        images[k].become(plan);
        imagesKept |= 1 << k;
        return 0;
    }

    public int back(int k) {
        if (k < 0 || k >= IMAGES) {
            return NO_SUCH;
        }
        if ((imagesKept >> k & 1) == 0) {
            return NOTHING;
        }
        plan.become(images[k]);
        return 0;
    }

    public int row(int slot, int width, int n) {
        if (!isSlot(slot) || width < 0 || width >= WIDTHS || n > MOST_NUMBERS) {
            return NO_SUCH;
        }
        if (n < 0) {
            return TOO_FEW;
        }
        slots[slot].make(width, n);
        return 0;
    }

    public int write(int slot, int i, long v) {
        if (!isSlot(slot)) {
            return NO_SUCH;
        }
        Row row = slots[slot];
        if (!row.isThere()) {
            return NOTHING;
        }
        if (i < 0 || i >= row.size) {
            return BEYOND;
        }
        row.put(i, v);
        return 0;
    }

    public int paste(int slot, int i, int to, int k, int n) {
        if (!isSlot(slot) || !isSlot(to)) {
            return NO_SUCH;
        }
        Row source = slots[slot];
        Row target = slots[to];
        if (!source.isThere() || !target.isThere()) {
            return NOTHING;
        }
        if (source.width != target.width) {
            return OTHER_WIDTH;
        }
        if (!source.reaches(i, n) || !target.reaches(k, n)) {
            return BEYOND;
        }
        System.arraycopy(source.numbers, i, target.numbers, k, n);
        return 0;
    }

    /** The GARRISON as told, and its acts; without LINES there is none, and then nobody and no HOUR is found in it. */
    private static final class Plan {
        private int lines;
        private int men;
        private final int[] settings = new int[SETTINGS];
        private final int[] told = new int[MOST_MEN];
        private final int[] sweats = new int[MOST_MEN];
        private final int[] needs = new int[MOST_MEN];
        private final int[] boiled = new int[MOST_MEN];
        private final int[] rains = new int[MOST_HOURS];
        private final int[] heats = new int[MOST_HOURS];
        private final int[] frosts = new int[MOST_HOURS];
        private int acts;
        private final int[] actMan = new int[MOST_ACTS];
        private final int[] actHour = new int[MOST_ACTS];
        /** PACKETS of an act; an ironing takes none. */
        private final int[] actPackets = new int[MOST_ACTS];
        /** Grows with every change, so that a search can know whether what it found still holds. */
        private int stamp;

        private void clear() {
            stamp++;
            lines = 0;
            men = 0;
            acts = 0;
            Arrays.fill(settings, 0);
            Arrays.fill(boiled, 0);
            Arrays.fill(rains, 0);
            Arrays.fill(heats, 0);
            Arrays.fill(frosts, 0);
        }

        private void become(Plan other) {
            stamp++;
            lines = other.lines;
            men = other.men;
            acts = other.acts;
            System.arraycopy(other.settings, 0, settings, 0, SETTINGS);
            System.arraycopy(other.told, 0, told, 0, MOST_MEN);
            System.arraycopy(other.sweats, 0, sweats, 0, MOST_MEN);
            System.arraycopy(other.needs, 0, needs, 0, MOST_MEN);
            System.arraycopy(other.boiled, 0, boiled, 0, MOST_MEN);
            System.arraycopy(other.rains, 0, rains, 0, MOST_HOURS);
            System.arraycopy(other.heats, 0, heats, 0, MOST_HOURS);
            System.arraycopy(other.frosts, 0, frosts, 0, MOST_HOURS);
            System.arraycopy(other.actMan, 0, actMan, 0, MOST_ACTS);
            System.arraycopy(other.actHour, 0, actHour, 0, MOST_ACTS);
            System.arraycopy(other.actPackets, 0, actPackets, 0, MOST_ACTS);
        }

        private boolean isTold() {
            return lines > 0;
        }

        private boolean isMan(int man) {
            return man >= 0 && man < men;
        }

        private boolean isHour(int hour) {
            return hour >= 0 && hour < settings[HOURS];
        }

        private int hourCount() {
            return settings[HOURS];
        }

        private int allMen() {
            return (1 << men) - 1;
        }

        private boolean isFrost(int hour) {
            return frosts[hour] > 0;
        }

        private void act(int man, int hour, int packets) {
            if (acts >= MOST_ACTS) {
                return;
            }
            stamp++;
            actMan[acts] = man;
            actHour[acts] = hour;
            actPackets[acts] = packets;
            acts++;
        }

        private void keepActs(int n) {
            stamp++;
            acts = n;
        }

        private void setNeeds(int man, int n) {
            stamp++;
            needs[man] = n;
        }

        private int packetsTaken(int hour) {
            int taken = 0;
            for (int i = 0; i < acts; i++) {
                if (actHour[i] == hour) {
                    taken += actPackets[i];
                }
            }
            return taken;
        }

        private int eatenOf(int left, int hour) {
            return hour % 6 == 5 ? Math.min(left, settings[WEEVILS]) : 0;
        }

        private int packetsLeft(int lastHour) {
            int left = settings[PACKETS];
            for (int hour = 0; hour <= lastHour; hour++) {
                left -= packetsTaken(hour);
                left -= eatenOf(left, hour);
            }
            return left;
        }

        private int packetsEaten() {
            int left = settings[PACKETS];
            int sum = 0;
            for (int hour = 0; hour < settings[HOURS]; hour++) {
                left -= packetsTaken(hour);
                int gone = eatenOf(left, hour);
                left -= gone;
                sum += gone;
            }
            return sum;
        }

        private boolean packetsSuffice() {
            int left = settings[PACKETS];
            for (int hour = 0; hour < settings[HOURS]; hour++) {
                left -= packetsTaken(hour);
                if (left < 0) {
                    return false;
                }
                left -= eatenOf(left, hour);
            }
            return true;
        }
    }

    /** Reads a TAPE; it stops at the first FAULT, which is the first by its place as well. */
    private static final class Reader {
        private static final int END = 0;
        private static final int WORD = 1;
        private static final int NUMBER = 2;
        private static final int SIGN = 3;
        private static final int OTHER = 4;
        private static final int MISPLACED = 1;
        private static final int OUT_OF_BOUNDS = 2;
        private static final int ONE_TOO_MANY = 3;
        private static final int MOST_OF_A_WEATHER = 3;
        /** Above every bound: a longer row of digits need not be told apart from it. */
        private static final int GREAT = 1000;

        private final byte[] tape;
        private int length;
        private int at;
        private int kind;
        private int start;
        private int number;
        private int rainLines;
        private int heatLines;
        private int frostLines;
        private int faultKind;
        private int faultPlace = NONE;

        private Reader(byte[] tape) {
            this.tape = tape;
        }

        private boolean reads(Plan into, int bytes) {
            into.clear();
            length = Math.min(bytes, tape.length);
            at = 0;
            rainLines = 0;
            heatLines = 0;
            frostLines = 0;
            faultKind = 0;
            faultPlace = NONE;
            for (int i = 0; i <= MOST_BYTES; i++) {
                takeToken();
                if (kind == END) {
                    return true;
                }
                if (!readsLine(into)) {
                    return false;
                }
                into.lines++;
            }
            return true;
        }

        private boolean readsLine(Plan into) {
            if (into.lines == 0) {
                return isWord("garrison") ? readsSettings(into) : refuse(MISPLACED);
            }
            if (isWord("man")) {
                return into.men < MOST_MEN ? readsMan(into) : refuse(ONE_TOO_MANY);
            }
            if (isWord("rain")) {
                rainLines++;
                return rainLines <= MOST_OF_A_WEATHER ? readsAmount(into.rains, 9) : refuse(ONE_TOO_MANY);
            }
            if (isWord("heat")) {
                heatLines++;
                return heatLines <= MOST_OF_A_WEATHER ? readsAmount(into.heats, 3) : refuse(ONE_TOO_MANY);
            }
            if (isWord("frost")) {
                frostLines++;
                return frostLines <= MOST_OF_A_WEATHER ? readsHours(into.frosts, 1) : refuse(ONE_TOO_MANY);
            }
            return refuse(MISPLACED);
        }

        private boolean readsSettings(Plan into) {
            for (int i = 0; i < SETTINGS; i++) {
                if (!takesWord(settingName(i)) || !takesNumber(SETTING_LEAST[i], SETTING_MOST[i])) {
                    return false;
                }
                into.settings[i] = number;
            }
            takeToken();
            return closesLine();
        }

        private static String settingName(int setting) {
            switch (setting) {
                case HOURS:
                    return "hours";
                case LAW:
                    return "law";
                case GAP:
                    return "gap";
                case PACKETS:
                    return "packets";
                case WEEVILS:
                    return "weevils";
                default:
                    return "odds";
            }
        }

        private boolean readsMan(Plan into) {
            int man = into.men;
            if (!takesWord("stiff") || !takesNumber(0, MOST_STIFF)) {
                return false;
            }
            into.told[man] = number;
            if (!takesWord("sweat") || !takesNumber(0, 9)) {
                return false;
            }
            into.sweats[man] = number;
            if (!takesWord("needs") || !takesNumber(1, MOST_NEEDS)) {
                return false;
            }
            into.needs[man] = number;
            takeToken();
            if (isWord("boiled")) {
                into.boiled[man] = 1;
                takeToken();
            }
            into.men++;
            return closesLine();
        }

        private boolean readsAmount(int[] amounts, int mostOfIt) {
            return takesNumber(1, mostOfIt) && readsHours(amounts, number);
        }

        private boolean readsHours(int[] amounts, int amount) {
            if (!takesWord("from") || !takesNumber(0, MOST_HOURS - 1)) {
                return false;
            }
            int from = number;
            if (!takesWord("to") || !takesNumber(from, MOST_HOURS - 1)) {
                return false;
            }
            for (int hour = from; hour <= number; hour++) {
                amounts[hour] += amount;
            }
            takeToken();
            return closesLine();
        }

        private boolean takesWord(String word) {
            takeToken();
            return isWord(word) || refuse(MISPLACED);
        }

        private boolean takesNumber(int smallest, int greatest) {
            takeToken();
            if (kind != NUMBER) {
                return refuse(MISPLACED);
            }
            return number >= smallest && number <= greatest || refuse(OUT_OF_BOUNDS);
        }

        private boolean closesLine() {
            return kind == SIGN || refuse(MISPLACED);
        }

        private boolean refuse(int fault) {
            faultKind = fault;
            faultPlace = start;
            return false;
        }

        private void takeToken() {
            while (at < length && isBlank(tape[at])) {
                at++;
            }
            start = at;
            if (at >= length) {
                kind = END;
            } else if (isLetter(tape[at])) {
                kind = WORD;
                while (at < length && isLetter(tape[at])) {
                    at++;
                }
            } else if (isDigit(tape[at])) {
                kind = NUMBER;
                number = 0;
                while (at < length && isDigit(tape[at])) {
                    number = Math.min(GREAT, number * 10 + tape[at] - '0');
                    at++;
                }
            } else {
                kind = tape[at] == ';' ? SIGN : OTHER;
                at++;
            }
        }

        private static boolean isBlank(byte b) {
            return b == 32 || b == 10;
        }

        private static boolean isLetter(byte b) {
            return b >= 'a' && b <= 'z';
        }

        private static boolean isDigit(byte b) {
            return b >= '0' && b <= '9';
        }

        private boolean isWord(String word) {
            if (kind != WORD || at - start != word.length()) {
                return false;
            }
            for (int i = 0; i < word.length(); i++) {
                if (tape[start + i] != word.charAt(i)) {
                    return false;
                }
            }
            return true;
        }
    }

    /** Plays a siege HOUR by HOUR, as now or with something otherwise. */
    private static final class Siege {
        private final Plan plan;
        private final int[] told = new int[MOST_MEN];
        private final int[] boiled = new int[MOST_MEN];
        /** The MAN at each place of the LINE. */
        private final int[] places = new int[MOST_MEN];
        /**
         * What acts add to a MAN at an HOUR. All of it is added and cut to the greatest STIFF at once: as nothing
         * is taken away in between, this is the same as act by act, whatever their order.
         */
        private final int[] gains = new int[MOST_MEN * MOST_HOURS];
        private int lawNow;
        private int dampHours;
        private final int[] stiffness = new int[MOST_MEN * MOST_HOURS];
        private final int[] sagging = new int[MOST_HOURS];
        /** MEN beside whom one SAGS, HOUR by HOUR, as bits. */
        private final int[] pressed = new int[MOST_HOURS];
        private final int[] crackedAt = new int[MOST_MEN];

        private Siege(Plan plan) {
            this.plan = plan;
        }

        private static int cell(int man, int hour) {
            return hour * MOST_MEN + man;
        }

        private void setAsNow() {
            for (int man = 0; man < MOST_MEN; man++) {
                told[man] = plan.told[man];
                boiled[man] = plan.boiled[man];
                places[man] = man;
            }
            Arrays.fill(gains, 0);
            for (int i = 0; i < plan.acts; i++) {
                int packets = plan.actPackets[i];
                int gained = packets > 0 ? PACKET_GAIN * packets : IRON_GAIN;
                gains[cell(plan.actMan[i], plan.actHour[i])] += gained;
            }
            lawNow = plan.settings[LAW];
            dampHours = 0;
        }

        private void starchBesides(int man, int hour, int packets) {
            gains[cell(man, hour)] += PACKET_GAIN * packets;
        }

        private void playAsNow() {
            setAsNow();
            playAll();
        }

        private void playAll() {
            for (int hour = 0; hour < plan.hourCount(); hour++) {
                playHour(hour);
            }
        }

        private void playThrough(int lastHour) {
            for (int hour = 0; hour <= lastHour; hour++) {
                playHour(hour);
            }
        }

        private void playHour(int hour) {
            int sags = 0;
            for (int man = 0; man < plan.men; man++) {
                int now = arrive(man, hour);
                stiffness[cell(man, hour)] = now;
                if (now < plan.needs[man]) {
                    sags |= 1 << man;
                }
            }
            sagging[hour] = sags;
            pressed[hour] = besideAny(sags);
        }

        private int arrive(int man, int hour) {
            if (hour == 0) {
                crackedAt[man] = NONE;
            }
            if (crackedAt[man] != NONE) {
                return 0;
            }
            int carried = told[man];
            if (hour > 0) {
                int before = stiffAt(man, hour - 1);
                carried = Math.max(0, before - lossOf(before, man, hour - 1));
            }
            int now = Math.min(MOST_STIFF, carried + gains[cell(man, hour)]);
            if (now > CRACKS_ABOVE && plan.isFrost(hour)) {
                crackedAt[man] = hour;
                return 0;
            }
            return now;
        }

        private int besideAny(int sags) {
            int bits = 0;
            for (int place = 0; place < plan.men; place++) {
                boolean ahead = place > 0 && (sags >> places[place - 1] & 1) != 0;
                boolean behind = place + 1 < plan.men && (sags >> places[place + 1] & 1) != 0;
                if (ahead || behind) {
                    bits |= 1 << places[place];
                }
            }
            return bits;
        }

        private int lossOf(int stiffNow, int man, int hour) {
            int loss = plan.sweats[man] * (1 + plan.heats[hour]);
            if ((lawNow & 2) != 0 && (pressed[hour] >> man & 1) != 0) {
                loss *= 2;
            }
            if ((lawNow & 1) != 0) {
                loss += stiffNow / 10;
            }
            if (plan.frosts[hour] == 0) {
                loss += boiled[man] != 0 ? plan.rains[hour] / 2 : plan.rains[hour];
                loss += (dampHours >> hour & 1) * DAMP_LOSS;
            }
            return loss;
        }

        private int lossAt(int man, int hour) {
            return lossOf(stiffAt(man, hour), man, hour);
        }

        private int stiffAt(int man, int hour) {
            return stiffness[hour * MOST_MEN + man];
        }

        private int saggingAt(int hour) {
            return sagging[hour];
        }

        private boolean standsAt(int man, int hour) {
            return (sagging[hour] >> man & 1) == 0;
        }

        private int firstSag(int man) {
            for (int hour = 0; hour < plan.hourCount(); hour++) {
                if (!standsAt(man, hour)) {
                    return hour;
                }
            }
            return NONE;
        }

        private int hoursStood(int man) {
            int stood = 0;
            for (int hour = 0; hour < plan.hourCount(); hour++) {
                if (standsAt(man, hour)) {
                    stood++;
                }
            }
            return stood;
        }

        private int widestGap(int hour) {
            int widest = 0;
            int wide = 0;
            for (int place = 0; place < plan.men; place++) {
                wide = standsAt(places[place], hour) ? 0 : wide + 1;
                widest = Math.max(widest, wide);
            }
            return widest;
        }

        private boolean lineHolds(int hour) {
            return widestGap(hour) <= plan.settings[GAP];
        }

        /** At how many of the first HOURS the LINE HOLDS, from HOUR 0 on; it plays no further than that. */
        private int hoursHeldOf(int firstHours) {
            for (int hour = 0; hour < firstHours; hour++) {
                playHour(hour);
                if (!lineHolds(hour)) {
                    return hour;
                }
            }
            return firstHours;
        }

        private int hoursHeld() {
            return hoursHeldOf(plan.hourCount());
        }

        private int firstFall() {
            int held = hoursHeld();
            return held < plan.hourCount() ? held : NONE;
        }

        private boolean standsThrough(int man, int lastHour) {
            for (int hour = 0; hour <= lastHour; hour++) {
                playHour(hour);
                if (!standsAt(man, hour)) {
                    return false;
                }
            }
            return true;
        }
    }

    /** Tries all shares of PACKETS at HOUR 0, the least row first. */
    private static final class Sharing {
        /** 6 PACKETS are shared among 6 MEN in 462 ways. */
        private static final int MOST_SHARES = 500;

        private final Plan plan;
        private final Siege siege;
        private final int[] shared = new int[MOST_MEN];
        private final int[] first = new int[MOST_MEN];
        private int ways;
        private int longest;
        private int searchedPackets = NONE;
        private int searchedStamp = NONE;

        private Sharing(Plan plan, Siege siege) {
            this.plan = plan;
            this.siege = siege;
        }

        private void search(int packets) {
            if (searchedStamp == plan.stamp && searchedPackets == packets) {
                return;
            }
            searchedStamp = plan.stamp;
            searchedPackets = packets;
            ways = 0;
            longest = NONE;
            siege.setAsNow();
            boolean more = begin(packets);
            for (int i = 0; i < MOST_SHARES && more; i++) {
                weigh(heldBy(plan.hourCount()));
                more = advance();
            }
        }

        private void weigh(int held) {
            if (held > longest) {
                longest = held;
                ways = 1;
                System.arraycopy(shared, 0, first, 0, MOST_MEN);
            } else if (held == longest) {
                ways++;
            }
        }

        /** The last HOUR of the best share; without MEN there is no share of PACKETS at all, so none HOLDS. */
        private int lastHeld() {
            return ways > 0 ? longest - 1 : NONE;
        }

        private boolean holdsThrough(int hour, int packets) {
            siege.setAsNow();
            boolean more = begin(packets);
            for (int i = 0; i < MOST_SHARES && more; i++) {
                if (heldBy(hour + 1) == hour + 1) {
                    return true;
                }
                more = advance();
            }
            return false;
        }

        private boolean begin(int packets) {
            Arrays.fill(shared, 0);
            if (plan.men == 0) {
                return packets == 0;
            }
            shared[plan.men - 1] = packets;
            return true;
        }

        /** The next row: one PACKET goes from the last who has any to the one ahead of him, his others to the end. */
        private boolean advance() {
            int giver = plan.men - 1;
            while (giver > 0 && shared[giver] == 0) {
                giver--;
            }
            if (giver <= 0) {
                return false;
            }
            int rest = shared[giver] - 1;
            shared[giver] = 0;
            shared[giver - 1]++;
            shared[plan.men - 1] = rest;
            return true;
        }

        private int heldBy(int firstHours) {
            starchAll(1);
            int held = siege.hoursHeldOf(firstHours);
            starchAll(-1);
            return held;
        }

        private void starchAll(int times) {
            for (int man = 0; man < plan.men; man++) {
                siege.starchBesides(man, 0, shared[man] * times);
            }
        }
    }

    /** Tries orders of MEN in the LINE, the least row first. */
    private static final class Ordering {
        /** 6 MEN stand in 720 orders. */
        private static final int MOST_ORDERS = 800;

        private final Plan plan;
        private final Siege siege;
        private final int[] first = new int[MOST_MEN];
        private int longest;
        private int searchedStamp = NONE;

        private Ordering(Plan plan, Siege siege) {
            this.plan = plan;
            this.siege = siege;
        }

        private void search() {
            if (searchedStamp == plan.stamp) {
                return;
            }
            searchedStamp = plan.stamp;
            longest = NONE;
            siege.setAsNow();
            boolean more = true;
            // No order is better than one that HOLDS to the end, and the least row of these comes first.
            for (int i = 0; i < MOST_ORDERS && more && longest < plan.hourCount(); i++) {
                int held = siege.hoursHeld();
                if (held > longest) {
                    longest = held;
                    System.arraycopy(siege.places, 0, first, 0, MOST_MEN);
                }
                more = advance(siege.places);
            }
        }

        /** The next row: the last MAN ahead of a greater one makes way for the least such, and the rest stands rising. */
        private boolean advance(int[] places) {
            int low = plan.men - 2;
            while (low >= 0 && places[low] > places[low + 1]) {
                low--;
            }
            if (low < 0) {
                return false;
            }
            int high = plan.men - 1;
            while (high > low + 1 && places[high] < places[low]) {
                high--;
            }
            swap(places, low, high);
            int left = low + 1;
            int right = plan.men - 1;
            while (left < right) {
                swap(places, left, right);
                left++;
                right--;
            }
            return true;
        }

        private static void swap(int[] places, int one, int two) {
            int man = places[one];
            places[one] = places[two];
            places[two] = man;
        }

        private int bestChange() {
            siege.setAsNow();
            int best = siege.hoursHeld();
            int found = NONE;
            for (int one = 0; one < plan.men; one++) {
                for (int two = one + 1; two < plan.men; two++) {
                    swap(siege.places, one, two);
                    int held = siege.hoursHeld();
                    swap(siege.places, one, two);
                    if (held > best) {
                        best = held;
                        found = 10 * one + two;
                    }
                }
            }
            return found;
        }
    }

    /**
     * Finds the fewest HOURS of ironing. As MEN beside him stay as they are, all that matters of the HOURS ahead is
     * how STIFF he is: for each STIFF the best set is kept as one number, HOURS of ironing above their bits, so that
     * the least number is the fewest HOURS and among these the least set.
     */
    private static final class Ironing {
        private static final long UNREACHED = 1L << 60;
        private static final long ONE_MORE = 1L << MOST_HOURS;

        private final Plan plan;
        private final Siege siege;
        private long[] reached = new long[MOST_STIFF + 1];
        private long[] reachedNext = new long[MOST_STIFF + 1];
        private long best;

        private Ironing(Plan plan, Siege siege) {
            this.plan = plan;
            this.siege = siege;
        }

        private void search(int man) {
            siege.playAsNow();
            Arrays.fill(reached, UNREACHED);
            reached[plan.told[man]] = 0;
            for (int hour = 0; hour < plan.hourCount(); hour++) {
                Arrays.fill(reachedNext, UNREACHED);
                passHour(man, hour);
                long[] passed = reached;
                reached = reachedNext;
                reachedNext = passed;
            }
            best = UNREACHED;
            for (int carried = 0; carried <= MOST_STIFF; carried++) {
                best = Math.min(best, reached[carried]);
            }
        }

        private void passHour(int man, int hour) {
            int gained = siege.gains[Siege.cell(man, hour)];
            for (int carried = 0; carried <= MOST_STIFF; carried++) {
                long set = reached[carried];
                if (set != UNREACHED) {
                    pass(man, hour, carried + gained, set);
                    pass(man, hour, carried + gained + IRON_GAIN, set + ONE_MORE + (1L << hour));
                }
            }
        }

        private void pass(int man, int hour, int raised, long set) {
            int now = Math.min(MOST_STIFF, raised);
            if (now < plan.needs[man] || now > CRACKS_ABOVE && plan.isFrost(hour)) {
                return;
            }
            int carried = Math.max(0, now - siege.lossOf(now, man, hour));
            reachedNext[carried] = Math.min(reachedNext[carried], set);
        }

        private int fewestHours() {
            return best == UNREACHED ? NONE : (int) (best >> MOST_HOURS);
        }

        private int leastSet() {
            return best == UNREACHED ? NONE : (int) (best & ONE_MORE - 1);
        }
    }

    /** Finds by which STIFF told, or by which LAW, it would be as a row tells. */
    private static final class Sighting {
        private final Plan plan;
        private final Siege siege;
        private int ways;
        private int lowest;
        private int highest;
        private int soonest;
        private int latest;
        /** By how many of the ways he STANDS, HOUR by HOUR. */
        private final int[] standing = new int[MOST_HOURS];

        private Sighting(Plan plan, Siege siege) {
            this.plan = plan;
            this.siege = siege;
        }

        private static boolean isWithin(long number, int limit) {
            return number >= 0 && number < limit;
        }

        private boolean fitsPairs(Row row) {
            for (int i = 0; i + 1 < row.size; i += 2) {
                if (!isWithin(row.numbers[i], plan.hourCount()) || !isWithin(row.numbers[i + 1], 2)) {
                    return false;
                }
            }
            return row.size % 2 == 0;
        }

        private boolean fitsTriples(Row row) {
            for (int i = 0; i + 2 < row.size; i += 3) {
                if (!isWithin(row.numbers[i], plan.men) || !isWithin(row.numbers[i + 1], plan.hourCount())
                        || !isWithin(row.numbers[i + 2], MOST_STIFF + 1)) {
                    return false;
                }
            }
            return row.size % 3 == 0;
        }

        private void weigh(Row row, int man) {
            ways = 0;
            lowest = NONE;
            highest = NONE;
            soonest = NONE;
            latest = NONE;
            Arrays.fill(standing, 0);
            siege.setAsNow();
            for (int told = 0; told <= MOST_STIFF; told++) {
                siege.told[man] = told;
                siege.playAll();
                if (agreesByPairs(row, man)) {
                    note(told, man);
                }
            }
        }

        private boolean agreesByPairs(Row row, int man) {
            for (int i = 0; i + 1 < row.size; i += 2) {
                boolean stood = row.numbers[i + 1] == 1;
                if (siege.standsAt(man, (int) row.numbers[i]) != stood) {
                    return false;
                }
            }
            return true;
        }

        private void note(int told, int man) {
            if (ways == 0) {
                lowest = told;
            }
            ways++;
            highest = told;
            for (int hour = 0; hour < plan.hourCount(); hour++) {
                if (siege.standsAt(man, hour)) {
                    standing[hour]++;
                }
            }
            int sag = siege.firstSag(man);
            if (sag != NONE) {
                soonest = soonest == NONE ? sag : Math.min(soonest, sag);
                latest = Math.max(latest, sag);
            }
        }

        private int bestQuestion() {
            int fewest = ways;
            int found = NONE;
            for (int hour = 0; hour < plan.hourCount(); hour++) {
                int atWorst = Math.max(standing[hour], ways - standing[hour]);
                if (atWorst < fewest) {
                    fewest = atWorst;
                    found = hour;
                }
            }
            return found;
        }

        private int lawsOf(Row row) {
            siege.setAsNow();
            int bits = 0;
            for (int law = 0; law < LAWS; law++) {
                siege.lawNow = law;
                siege.playAll();
                if (agreesByTriples(row)) {
                    bits |= 1 << law;
                }
            }
            return bits;
        }

        private boolean agreesByTriples(Row row) {
            for (int i = 0; i + 2 < row.size; i += 3) {
                if (siege.stiffAt((int) row.numbers[i], (int) row.numbers[i + 1]) != row.numbers[i + 2]) {
                    return false;
                }
            }
            return true;
        }
    }

    /** DAMP by chance: sums over all DAMP of the HOURS ahead, as a FRACTION, and DAMP drawn from a seed. */
    private static final class Weather {
        private static final int STANDING = 0;
        private static final int HOLDING = 1;
        private static final int STIFFNESS = 2;
        /** Far above the steps that Euclid's way takes for two longs. */
        private static final int MOST_STEPS = 200;
        private static final long DRAW_FACTOR = 1103515245L;
        private static final long DRAW_ADDEND = 12345L;
        private static final long DRAW_MASK = 2147483647L;

        private final Plan plan;
        private final Siege siege;
        private long above;
        private long below;

        private Weather(Plan plan, Siege siege) {
            this.plan = plan;
            this.siege = siege;
        }

        private long part(int what) {
            return what == 0 ? above : below;
        }

        /** Only DAMP of the HOURS ahead of one changes what is at it, so only their bits are gone through. */
        private void sum(int kind, int man, int hour) {
            siege.setAsNow();
            above = 0;
            for (int damp = 0; damp < 1 << hour; damp++) {
                long weight = weightOf(damp, hour);
                if (weight > 0) {
                    siege.dampHours = damp;
                    above += weight * valueOf(kind, man, hour);
                }
            }
            below = 1;
            for (int i = 0; i < hour; i++) {
                below *= 10;
            }
            reduce();
        }

        private long weightOf(int damp, int hours) {
            long weight = 1;
            for (int hour = 0; hour < hours; hour++) {
                weight *= (damp >> hour & 1) != 0 ? plan.settings[ODDS] : 10 - plan.settings[ODDS];
            }
            return weight;
        }

        private int valueOf(int kind, int man, int hour) {
            if (kind == HOLDING) {
                return siege.hoursHeldOf(hour + 1) == hour + 1 ? 1 : 0;
            }
            siege.playThrough(hour);
            if (kind == STANDING) {
                return siege.standsAt(man, hour) ? 1 : 0;
            }
            return siege.stiffAt(man, hour);
        }

        private void reduce() {
            long divisor = below;
            long rest = above;
            for (int i = 0; i < MOST_STEPS && rest != 0; i++) {
                long next = divisor % rest;
                divisor = rest;
                rest = next;
            }
            if (divisor != 0) {
                above /= divisor;
                below /= divisor;
            }
        }

        private int drawDamp(int seed) {
            long x = seed;
            int bits = 0;
            for (int hour = 0; hour < plan.hourCount(); hour++) {
                x = DRAW_FACTOR * x + DRAW_ADDEND & DRAW_MASK;
                if (x / 65536 % 10 < plan.settings[ODDS]) {
                    bits |= 1 << hour;
                }
            }
            return bits;
        }
    }

    /** What a SLOT has: a row of numbers of one WIDTH, or nothing. */
    private static final class Row {
        private int width;
        private int size = NONE;
        private final long[] numbers = new long[MOST_NUMBERS];

        private boolean isThere() {
            return size != NONE;
        }

        private void make(int newWidth, int newSize) {
            width = newWidth;
            size = newSize;
            Arrays.fill(numbers, 0);
        }

        private void put(int i, long v) {
            if (width == 0) {
                numbers[i] = (byte) v;
            } else if (width == 1) {
                numbers[i] = (short) v;
            } else if (width == 2) {
                numbers[i] = (int) v;
            } else {
                numbers[i] = v;
            }
        }

        /** Whether n numbers from one on are all within the row; the sum may be beyond an int. */
        private boolean reaches(int from, int n) {
            return from >= 0 && n >= 0 && (long) from + n <= size;
        }
    }
}
