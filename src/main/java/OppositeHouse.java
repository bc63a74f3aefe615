import java.util.Arrays;

/** A quorum of opposites: a house told as a text, its deeds, and what can be asked of it. */
public final class OppositeHouse {
    public static final int NONE = -1;

    private static final int NO_SUCH = -2;
    private static final int BAD_NUMBER = -3;
    private static final int NOT_NOW = -5;
    private static final int MISSING = -6;
    private static final int NO_PLACE = -7;
    private static final int WHY_NOT = -10;
    private static final int BAD_TEXT = -30;

    private static final int MOST_BYTES = 900;
    private static final int FED_BYTES = 20;
    private static final int MOST_PEOPLE = 10;
    private static final int MOST_LINES = 3;
    private static final int ALL_SETS = 1024;
    private static final int ALL_VIEWS = 1000;
    private static final int LAST_TOLD_DAY = 999;
    /** Far above every day that calls can reach. */
    private static final int NO_LAST_DAY = 1000000;
    private static final int WEEK = 7;
    private static final int DAYS_TO_COME = 100;
    private static final int MOST_DAYS = 99;
    private static final int BILLS = 10;
    private static final int MOST_UNDONE = 10;
    private static final int MOST_TIMES = 40;
    private static final int TRAYS = 4;
    private static final int SORTS = 4;
    private static final int MOST_NUMBERS = 40;
    private static final int IMAGES = 2;

    /** Deeds as numbers; a talk is ten times the one, and the other. */
    private static final int SEND = 100;
    private static final int CALL = 200;
    private static final int NO_SUCH_DEED = 1;
    private static final int NOT_AS_IT_IS = 2;

    /** What a law can name, by its place in the row of values that a law is given. */
    private static final int EASE = 0;
    private static final int UNEASE = 4;
    private static final int DAY = 8;
    private static final int BILL = 9;
    private static final int LINE = 10;
    private static final int NAMES = 11;
    private static final int NAMES_IN_OPPOSES = 0x1FF;
    private static final int NAMES_IN_AYES = 0x30F;
    private static final int NAMES_IN_SWAYS = 0x5FF;

    /** A token is a word by its place here (the names of the laws first), or one of those below. */
    private static final String WORDS =
            "ease faith war who unease unfaith unwar other day bill line house lines person in to temper weight opposes ayes sways or and not";
    private static final int HOUSE = 11;
    private static final int LINES = 12;
    private static final int PERSON = 13;
    private static final int IN = 14;
    private static final int TO = 15;
    private static final int TEMPER = 16;
    private static final int WEIGHT = 17;
    private static final int OPPOSES = 18;
    private static final int AYES = 19;
    private static final int SWAYS = 20;
    private static final int OR = 21;
    private static final int AND = 22;
    private static final int NOT = 23;
    private static final int STRANGE_WORD = 24;
    private static final int NUMBER = 25;
    private static final int END = 26;
    private static final int BROKEN = 27;

    /** Signs are tokens by their own byte; each of these is above BROKEN. */
    private static final String SIGNS = ";:+-*()[]=<>";

    private static final int NO_TOKEN = 1;
    private static final int MISPLACED = 2;
    private static final int OUT_OF_BOUNDS = 3;
    private static final int ONE_TOO_MANY = 4;
    private static final int MOST_NESTED = 6;

    /** A step of a law: below NAME_STEP a number, below SIGN_STEP a name, else a token that joins. */
    private static final int NAME_STEP = 1000;
    private static final int SIGN_STEP = 2000;
    private static final int MOST_HELD = 64;
    private static final int MOST_VALUE = 1000000;

    private final byte[] tape = new byte[MOST_BYTES];
    private int tapeLength = 0;
    private int faultKind = 0;
    private int faultPlace = NONE;
    private final Reader reader = new Reader();
    private final State now;
    private final State before;
    private final State trial;
    private final History history;
    private final Tray[] trays = new Tray[TRAYS];
    private final State[] images = new State[IMAGES];
    private final boolean[] imageMade = new boolean[IMAGES];
    private final Scales scales = new Scales();
    private final Circle circle = new Circle();
    private final Turning turning = new Turning();
    private final Guess guess = new Guess();
    /** Grows with each change, so that what was found of an older state isn't taken for today's. */
    private int changes = 0;

    public OppositeHouse() {
        House empty = new House();
        now = new State(empty);
        before = new State(empty);
        trial = new State(empty);
        history = new History(empty);
        for (int i = 0; i < TRAYS; i++) {
            trays[i] = new Tray();
        }
        for (int i = 0; i < IMAGES; i++) {
            images[i] = new State(empty);
        }
    }

    // ---- the house

    public int feed(int a, int b, int c, int d, int e) {
        if (tapeLength + FED_BYTES > MOST_BYTES) {
            return NOT_NOW;
        }
        putOnTape(a);
        putOnTape(b);
        putOnTape(c);
        putOnTape(d);
        putOnTape(e);
        return tapeLength;
    }

    private void putOnTape(int four) {
        for (int shift = 24; shift >= 0 && tapeLength < MOST_BYTES; shift -= 8) {
            tape[tapeLength] = (byte) (four >>> shift);
            tapeLength++;
        }
    }

    public int house(int n) {
        if (n < 0 || n > tapeLength) {
            return BAD_NUMBER;
        }
        tapeLength = 0;
        House told = reader.read(tape, n);
        faultKind = reader.fault;
        faultPlace = reader.faultPlace;
        if (faultKind != 0) {
            return BAD_TEXT - faultKind;
        }
        now.begin(told);
        history.forget();
        changes++;
        return told.textLines;
    }

    public int fault(int what) {
        if (what == 0) {
            return faultKind;
        }
        return what == 1 ? faultPlace : NONE;
    }

    public int person(int p, int what) {
        if (!isPerson(p)) {
            return NO_SUCH;
        }
        House told = now.house;
        switch (what) {
            case 0: return now.views[p] / 100;
            case 1: return now.views[p] / 10 % 10;
            case 2: return now.views[p] % 10;
            case 3: return told.first[p];
            case 4: return Math.min(told.last[p], LAST_TOLD_DAY);
            case 5: return told.temper[p];
            case 6: return told.weight[p];
            case 7: return now.away >> p & 1;
            case 8: return now.inTown() >> p & 1;
            default: return NO_SUCH;
        }
    }

    private boolean isPerson(int p) {
        return p >= 0 && p < now.house.people;
    }

    private boolean areTwoPeople(int p, int q) {
        return isPerson(p) && isPerson(q) && p != q;
    }

    private boolean isSet(int set) {
        return (set & ~everybody()) == 0;
    }

    private int everybody() {
        return (1 << now.house.people) - 1;
    }

    public int town(int n) {
        if (n < 0 || n > LAST_TOLD_DAY) {
            return BAD_NUMBER;
        }
        return now.inTownOn(now.day + n);
    }

    public int opposed(int p, int q) {
        if (!isPerson(p) || !isPerson(q)) {
            return NO_SUCH;
        }
        return p != q && scales.areOpposites(now, p, now.views[p], q, now.day) ? 1 : 0;
    }

    public int opposites(int p) {
        if (!isPerson(p)) {
            return NO_SUCH;
        }
        return scales.rowOf(now, p, now.views[p], now.day);
    }

    // ---- deeds

    public int talk(int p, int q) {
        if (!areTwoPeople(p, q)) {
            return WHY_NOT - NO_SUCH_DEED;
        }
        int why = doAlone(10 * p + q);
        return why != 0 ? WHY_NOT - why : opposites(p);
    }

    public int send(int p) {
        return sendOrCall(SEND, p);
    }

    public int call(int p) {
        return sendOrCall(CALL, p);
    }

    private int sendOrCall(int deed, int p) {
        if (!isPerson(p)) {
            return WHY_NOT - NO_SUCH_DEED;
        }
        int why = doAlone(deed + p);
        return why != 0 ? WHY_NOT - why : Integer.bitCount(now.away);
    }

    /** One deed as a call of its own: 0, or why it can't be. */
    private int doAlone(int deed) {
        int why = now.whyNot(deed);
        if (why == 0) {
            before.takeFrom(now);
            now.carryOut(deed, scales);
            remember();
        }
        return why;
    }

    /** A call did some: what was before it can be brought back. */
    private void remember() {
        history.add(before);
        changes++;
    }

    public int days(int n) {
        if (n < 1 || n > MOST_DAYS) {
            return BAD_NUMBER;
        }
        before.takeFrom(now);
        now.day += n;
        remember();
        return now.inTown();
    }

    public int undo(int n) {
        if (n < 1 || n > history.size) {
            return BAD_NUMBER;
        }
        history.bringBack(n, now);
        changes++;
        return history.size;
    }

    public int judge(int tray, int what) {
        if (!isTray(tray) || what < 0 || what > 3) {
            return NO_SUCH;
        }
        Tray deeds = trays[tray];
        if (deeds.isMissing()) {
            return MISSING;
        }
        trial.takeFrom(now);
        int done = deeds.carryOutIn(trial, scales);
        switch (what) {
            case 0: return done < deeds.size ? done : NONE;
            case 1: return done < deeds.size ? trial.whyNot(deeds.row[done]) : 0;
            case 2: return townSits(trial) ? 1 : 0;
            default: return trial.day;
        }
    }

    private boolean isTray(int tray) {
        return tray >= 0 && tray < TRAYS;
    }

    private boolean townSits(State state) {
        circle.draw(state, state.day, scales);
        return circle.canSit(state.inTown(), 0);
    }

    public int perform(int tray) {
        if (!isTray(tray)) {
            return NO_SUCH;
        }
        if (trays[tray].isMissing()) {
            return MISSING;
        }
        before.takeFrom(now);
        int done = trays[tray].carryOutIn(now, scales);
        if (done > 0) {
            remember();
        }
        return done;
    }

    public int year(int seed, int times) {
        if (times < 1 || times > MOST_TIMES) {
            return BAD_NUMBER;
        }
        before.takeFrom(now);
        int x = seed;
        int done = 0;
        for (int i = 0; i < times; i++) {
            x = nextDraw(x);
            int kind = drawn(x) % 4;
            int deed = NONE;
            if (kind != 0) {
                x = nextDraw(x);
                deed = drawn(x) % 10;
                if (kind == 1) {
                    x = nextDraw(x);
                    deed = 10 * deed + drawn(x) % 10;
                } else {
                    deed += kind == 2 ? SEND : CALL;
                }
            }
            if (now.whyNot(deed) == 0) {
                now.carryOut(deed, scales);
                done++;
            }
        }
        if (done > 0) {
            remember();
        }
        return done;
    }

    private static int nextDraw(int x) {
        return 1103515245 * x + 12345;
    }

    private static int drawn(int x) {
        return x >>> 16;
    }

    // ---- pairs

    public int sits(int set) {
        if (!isSet(set)) {
            return BAD_NUMBER;
        }
        drawToday();
        return circle.canSit(set, 0) ? 1 : 0;
    }

    private void drawToday() {
        circle.draw(now, now.day, scales);
    }

    public int pairs(int set, int what) {
        if (what != 0 && what != 1 && (what < 10 || !isPerson(what - 10))) {
            return NO_SUCH;
        }
        if (!isSet(set)) {
            return BAD_NUMBER;
        }
        drawToday();
        circle.weighPairs(now.house.weight);
        switch (what) {
            case 0: return circle.twosOf(set);
            case 1: return circle.weightOf(set);
            default: return circle.partnerOf(what - 10, set, now.house.weight);
        }
    }

    public int ways(int set) {
        if (!isSet(set)) {
            return BAD_NUMBER;
        }
        drawToday();
        circle.countPartings();
        return circle.partings[set];
    }

    public int bar(int set, int what) {
        if (what != 0 && what != 1) {
            return NO_SUCH;
        }
        if (!isSet(set)) {
            return BAD_NUMBER;
        }
        drawToday();
        circle.weighPairs(now.house.weight);
        int found = circle.leastBar(set);
        return what == 0 ? Integer.bitCount(found) : found;
    }

    public int pieces(int set) {
        if (!isSet(set)) {
            return BAD_NUMBER;
        }
        drawToday();
        return circle.countPieces(set, false);
    }

    public int bestDay() {
        int most = NONE;
        int soonest = 0;
        for (int late = 0; late < WEEK; late++) {
            // The laws know a day by its place in the week alone, so one drawing serves them all.
            circle.draw(now, now.day + late, scales);
            circle.weighPairs(now.house.weight);
            for (int n = late; n < DAYS_TO_COME; n += WEEK) {
                int twos = circle.twosOf(now.inTownOn(now.day + n));
                if (twos > most || twos == most && n < soonest) {
                    most = twos;
                    soonest = n;
                }
            }
        }
        return soonest;
    }

    public int firstDay() {
        int soonest = DAYS_TO_COME;
        for (int late = 0; late < WEEK; late++) {
            circle.draw(now, now.day + late, scales);
            for (int n = late; n < soonest; n += WEEK) {
                int set = now.inTownOn(now.day + n);
                if (set != 0 && circle.canSit(set, 0)) {
                    soonest = n;
                }
            }
        }
        return soonest < DAYS_TO_COME ? soonest : NONE;
    }

    public int quorum() {
        drawToday();
        circle.countPartings();
        int inTown = now.inTown();
        int found = 0;
        for (int set = 1; set <= inTown; set++) {
            if ((set & ~inTown) == 0 && circle.partings[set] > 0
                    && Integer.bitCount(set) > Integer.bitCount(found)) {
                found = set;
            }
        }
        return found;
    }

    // ---- covers

    public int cover(int set, int what) {
        if (what != 0 && what != 1) {
            return NO_SUCH;
        }
        if (!isSet(set)) {
            return BAD_NUMBER;
        }
        drawToday();
        return numberOrSet(circle.leastCover(set, now.inTown() & ~set), what);
    }

    private static int numberOrSet(int found, int what) {
        if (found == NONE) {
            return NONE;
        }
        return what == 0 ? Integer.bitCount(found) : found;
    }

    public int laundress(int set) {
        if (!isSet(set)) {
            return BAD_NUMBER;
        }
        drawToday();
        int others = now.inTown() & ~set;
        int found = NONE;
        int most = NONE;
        for (int p = 0; p < now.house.people; p++) {
            int opposing = Integer.bitCount(circle.rows[p] & set);
            if ((others >> p & 1) == 1 && opposing > most) {
                most = opposing;
                found = p;
            }
        }
        return found;
    }

    // ---- talks

    public int talks(int p, int q) {
        if (!areTwoPeople(p, q)) {
            return NO_SUCH;
        }
        turning.seek(now, p, q, scales, changes);
        return turning.length;
    }

    public int talkBy(int p, int q, int i) {
        if (!areTwoPeople(p, q)) {
            return NO_SUCH;
        }
        if (i < 0) {
            return BAD_NUMBER;
        }
        turning.seek(now, p, q, scales, changes);
        return i < turning.length ? turning.path[i] : NONE;
    }

    public int word() {
        int inTown = now.inTown();
        if (townSits(now)) {
            return NONE;
        }
        for (int p = 0; p < now.house.people; p++) {
            int row = circle.rows[p];
            for (int q = 0; q < now.house.people; q++) {
                int talk = 10 * p + q;
                if (now.whyNot(talk) != 0) {
                    continue;
                }
                int view = scales.swayed(now, p, now.views[p], q);
                circle.redraw(p, scales.rowOf(now, p, view, now.day));
                if (circle.canSit(inTown, 0)) {
                    return talk;
                }
            }
            circle.redraw(p, row);
        }
        return NONE;
    }

    // ---- bills

    public int ayes(int bill) {
        return isBill(bill) ? sayers(bill) : BAD_NUMBER;
    }

    private boolean isBill(int bill) {
        return bill >= 0 && bill < BILLS;
    }

    private int sayers(int bill) {
        int inTown = now.inTown();
        int found = 0;
        for (int p = 0; p < now.house.people; p++) {
            if ((inTown >> p & 1) == 1 && scales.saysAye(now, p, bill)) {
                found |= 1 << p;
            }
        }
        return found;
    }

    public int passes(int bill) {
        if (!isBill(bill)) {
            return BAD_NUMBER;
        }
        return hasMore(sayers(bill), now.inTown()) && townSits(now) ? 1 : 0;
    }

    private static boolean hasMore(int sayers, int set) {
        return 2 * Integer.bitCount(sayers & set) > Integer.bitCount(set);
    }

    public int passed(int bill, int what) {
        if (what != 0 && what != 1) {
            return NO_SUCH;
        }
        if (!isBill(bill)) {
            return BAD_NUMBER;
        }
        drawToday();
        circle.countPartings();
        return numberOrSet(fewestSent(bill), what);
    }

    /** The circle is today's, its partings are counted. */
    private int fewestSent(int bill) {
        int inTown = now.inTown();
        int sayers = sayers(bill);
        int found = NONE;
        int fewest = MOST_PEOPLE + 1;
        for (int sent = 0; sent <= inTown; sent++) {
            int left = inTown & ~sent;
            if ((sent & ~inTown) == 0 && Integer.bitCount(sent) < fewest
                    && circle.partings[left] > 0 && hasMore(sayers, left)) {
                found = sent;
                fewest = Integer.bitCount(sent);
            }
        }
        return found;
    }

    public int easiest() {
        drawToday();
        circle.countPartings();
        int found = NONE;
        int fewest = MOST_PEOPLE + 1;
        for (int bill = 0; bill < BILLS; bill++) {
            int sent = fewestSent(bill);
            if (sent != NONE && Integer.bitCount(sent) < fewest) {
                found = bill;
                fewest = Integer.bitCount(sent);
            }
        }
        return found;
    }

    // ---- hidden views

    public int hidden(int p, int set) {
        int code = refusedGuess(p, set);
        if (code != 0) {
            return code;
        }
        guess.seek(now, p, set, scales, changes);
        return guess.size;
    }

    private int refusedGuess(int p, int set) {
        if (!isPerson(p)) {
            return NO_SUCH;
        }
        return (set & ~(now.inTown() & ~(1 << p))) != 0 ? BAD_NUMBER : 0;
    }

    public int hiddenAt(int p, int set, int k) {
        int code = refusedGuess(p, set);
        if (code != 0) {
            return code;
        }
        if (k < 0) {
            return BAD_NUMBER;
        }
        guess.seek(now, p, set, scales, changes);
        return k < guess.size ? guess.fitting[k] : NONE;
    }

    public int probe(int p, int set) {
        int code = refusedGuess(p, set);
        if (code != 0) {
            return code;
        }
        guess.seek(now, p, set, scales, changes);
        return guess.size == 0 ? NONE : guess.whomToTry(now, scales);
    }

    // ---- chances

    public long chance(int set, int what) {
        if (what != 0 && what != 1) {
            return NO_SUCH;
        }
        if (!isSet(set)) {
            return BAD_NUMBER;
        }
        drawToday();
        circle.countPartings();
        long above = circle.shareOf(set, now.house.temper);
        long below = 1;
        for (int i = Integer.bitCount(set); i > 0; i--) {
            below *= 10;
        }
        long common = commonDivisor(above, below);
        if (common == 0) {
            return 0;
        }
        return what == 0 ? above / common : below / common;
    }

    private static long commonDivisor(long a, long b) {
        long greater = a;
        long lesser = b;
        // Each two turns halve what is left, so a long needs fewer than these.
        for (int i = 0; i < 200 && lesser != 0; i++) {
            long rest = greater % lesser;
            greater = lesser;
            lesser = rest;
        }
        return greater;
    }

    public int reserve(int set) {
        if (!isSet(set)) {
            return BAD_NUMBER;
        }
        drawToday();
        circle.countPartings();
        int others = now.inTown() & ~set;
        int found = NONE;
        // With one more the shares are of ten times as many, so those without count tenfold.
        long greatest = 10 * circle.shareOf(set, now.house.temper);
        for (int p = 0; p < now.house.people; p++) {
            if ((others >> p & 1) == 1) {
                long share = circle.shareOf(set | 1 << p, now.house.temper);
                if (share > greatest) {
                    greatest = share;
                    found = p;
                }
            }
        }
        return found;
    }

    // ---- trays, images

    public int numbers(int tray, int sort, int n) {
        if (!isTray(tray) || sort < 0 || sort >= SORTS) {
            return NO_SUCH;
        }
        if (n < 0 || n > MOST_NUMBERS) {
            return BAD_NUMBER;
        }
        trays[tray].lay(sort, n);
        return 0;
    }

    public long write(int tray, int i, long v) {
        if (!isTray(tray)) {
            return NO_SUCH;
        }
        Tray written = trays[tray];
        if (written.isMissing()) {
            return MISSING;
        }
        if (i < 0 || i >= written.size) {
            return NO_PLACE;
        }
        written.put(i, v);
        return written.row[i];
    }

    public int lists(int tray, int p, int q) {
        if (!isTray(tray) || !areTwoPeople(p, q)) {
            return NO_SUCH;
        }
        Tray written = trays[tray];
        if (written.isMissing()) {
            return MISSING;
        }
        turning.seek(now, p, q, scales, changes);
        if (turning.length == NONE) {
            return NOT_NOW;
        }
        int listed = Math.min(turning.length, written.size);
        for (int i = 0; i < listed; i++) {
            written.put(i, 10 * p + turning.path[i]);
        }
        return listed;
    }

    public int image(int i) {
        if (i < 0 || i >= IMAGES) {
            return NO_SUCH;
        }
        images[i].takeFrom(now);
        imageMade[i] = true;
        return 0;
    }

    public int restore(int i) {
        if (i < 0 || i >= IMAGES) {
            return NO_SUCH;
        }
        if (!imageMade[i]) {
            return NOT_NOW;
        }
        now.takeFrom(images[i]);
        history.forget();
        changes++;
        return 0;
    }

    public int count(int what) {
        switch (what) {
            case 0: return now.house.lines;
            case 1: return now.house.people;
            case 2: return now.inTown();
            case 3: return now.away;
            case 4: return now.day;
            case 5: return opposedTwos();
            case 6: return history.size;
            case 7: return tapeLength;
            case 8: return now.house.textLines;
            default: return NONE;
        }
    }

    private int opposedTwos() {
        drawToday();
        int ends = 0;
        for (int p = 0; p < now.house.people; p++) {
            ends += Integer.bitCount(circle.rows[p]);
        }
        return ends / 2;
    }

    /** What a text tells; it stays as it was read, so that states and images share it. */
    private static final class House {
        int lines = 1;
        int people = 0;
        int textLines = 0;
        int startDay = 0;
        Law opposing = null;
        Law saying = null;
        Law swaying = null;
        /** Views as one number: 100 times ease and 10 times faith and war. */
        final int[] views = new int[MOST_PEOPLE];
        final int[] first = new int[MOST_PEOPLE];
        final int[] last = new int[MOST_PEOPLE];
        final int[] temper = new int[MOST_PEOPLE];
        final int[] weight = new int[MOST_PEOPLE];
    }

    /** A law as steps, each joining what the steps ahead of it have left. */
    private static final class Law {
        final int[] steps;

        Law(int[] code, int size) {
            steps = Arrays.copyOf(code, size);
        }

        int valueFor(int[] given, int[] held) {
            int top = 0;
            for (int i = 0; i < steps.length; i++) {
                int step = steps[i];
                if (step < SIGN_STEP) {
                    int name = step - NAME_STEP;
                    if (top < held.length && name < given.length) {
                        held[top] = name < 0 ? step : given[name];
                        top++;
                    }
                } else if (step == SIGN_STEP + NOT) {
                    if (top > 0) {
                        held[top - 1] = 1 - held[top - 1];
                    }
                } else if (top > 1) {
                    top--;
                    held[top - 1] = joined(step - SIGN_STEP, held[top - 1], held[top]);
                }
            }
            return top > 0 ? held[0] : 0;
        }

        /** What two values are together; only sums and products can leave the bounds. */
        private static int joined(int sign, int a, int b) {
            long value;
            switch (sign) {
                case '+':
                    value = (long) a + b;
                    break;
                case '-':
                    value = (long) a - b;
                    break;
                case '*':
                    value = (long) a * b;
                    break;
                case '=':
                    value = a == b ? 1 : 0;
                    break;
                case '<':
                    value = a < b ? 1 : 0;
                    break;
                case '>':
                    value = a > b ? 1 : 0;
                    break;
                case AND:
                    value = a & b;
                    break;
                default:
                    value = a | b;
                    break;
            }
            return (int) Math.max(-MOST_VALUE, Math.min(MOST_VALUE, value));
        }
    }

    /** The tokens of a text, as far as the first place where none begins; that one is BROKEN. */
    private static final class Tokens {
        byte[] text = new byte[0];
        int length = 0;
        int size = 0;
        final int[] kinds = new int[MOST_BYTES + 1];
        final int[] places = new int[MOST_BYTES + 1];
        final int[] values = new int[MOST_BYTES + 1];

        void cut(byte[] bytes, int n) {
            text = bytes;
            length = Math.min(Math.min(n, bytes.length), MOST_BYTES);
            size = 0;
            int at = 0;
            boolean goesOn = true;
            for (int i = 0; i <= length && goesOn; i++) {
                while (at < length && (text[at] == 10 || text[at] == 32)) {
                    at++;
                }
                int end = endOf(at);
                kinds[i] = kindOf(at, end);
                places[i] = at;
                values[i] = kinds[i] == NUMBER ? valueOf(at, end) : 0;
                size = i + 1;
                at = end;
                goesOn = kinds[i] != END && kinds[i] != BROKEN;
            }
        }

        private boolean isLetter(int at) {
            return at < length && text[at] >= 'a' && text[at] <= 'z';
        }

        private boolean isDigit(int at) {
            return at < length && text[at] >= '0' && text[at] <= '9';
        }

        private int endOf(int at) {
            int end = at;
            if (isLetter(at)) {
                while (end < length && isLetter(end)) {
                    end++;
                }
            } else if (isDigit(at)) {
                while (end < length && isDigit(end)) {
                    end++;
                }
            } else if (at < length) {
                end++;
            }
            return end;
        }

        private int kindOf(int at, int end) {
            if (at >= length) {
                return END;
            }
            if (isLetter(at)) {
                return wordOf(at, end);
            }
            if (isDigit(at)) {
                return end - at > 3 ? BROKEN : NUMBER;
            }
            char sign = (char) (text[at] & 255);
            return SIGNS.indexOf(sign) >= 0 ? sign : BROKEN;
        }

        private int valueOf(int at, int end) {
            int value = 0;
            for (int i = at; i < end; i++) {
                value = 10 * value + text[i] - '0';
            }
            return value;
        }

        private int wordOf(int at, int end) {
            int number = 0;
            int start = 0;
            for (int i = 0; i <= WORDS.length(); i++) {
                if (i == WORDS.length() || WORDS.charAt(i) == ' ') {
                    if (i - start == end - at && isWritten(start, at, end - at)) {
                        return number;
                    }
                    number++;
                    start = i + 1;
                }
            }
            return STRANGE_WORD;
        }

        private boolean isWritten(int start, int at, int letters) {
            for (int i = 0; i < letters; i++) {
                if (WORDS.charAt(start + i) != text[at + i]) {
                    return false;
                }
            }
            return true;
        }
    }

    /** Reads a text token by token; with a fault the token is BROKEN, which stands nowhere. */
    private static final class Reader {
        final Tokens tokens = new Tokens();
        int at = 0;
        int token = END;
        int fault = 0;
        int faultPlace = NONE;
        House told = new House();
        final int[] code = new int[MOST_BYTES];
        int codeSize = 0;
        int namesAllowed = 0;

        House read(byte[] bytes, int n) {
            tokens.cut(bytes, n);
            at = NONE;
            fault = 0;
            faultPlace = NONE;
            told = new House();
            advance();
            take(HOUSE);
            take(LINES);
            told.lines = takeNumber(1, MOST_LINES);
            take(';');
            told.textLines = 1;
            for (int i = 0; i < tokens.size && token != END && token != BROKEN; i++) {
                readLine();
                take(';');
                told.textLines++;
            }
            return told;
        }

        private void refuse(int kind) {
            if (fault == 0) {
                fault = kind;
                faultPlace = tokens.places[at];
                token = BROKEN;
            }
        }

        private void advance() {
            if (fault != 0 || at + 1 >= tokens.size) {
                return;
            }
            at++;
            token = tokens.kinds[at];
            if (token == BROKEN) {
                fault = NO_TOKEN;
                faultPlace = tokens.places[at];
            }
        }

        private void take(int wanted) {
            if (token == wanted) {
                advance();
            } else {
                refuse(MISPLACED);
            }
        }

        private int takeNumber(int least, int most) {
            if (token != NUMBER) {
                refuse(MISPLACED);
                return least;
            }
            int value = tokens.values[at];
            if (value < least || value > most) {
                refuse(OUT_OF_BOUNDS);
                return least;
            }
            advance();
            return value;
        }

        private void readLine() {
            switch (token) {
                case PERSON:
                    readPerson();
                    break;
                case OPPOSES:
                    told.opposing = readLaw(NAMES_IN_OPPOSES, told.opposing);
                    break;
                case AYES:
                    told.saying = readLaw(NAMES_IN_AYES, told.saying);
                    break;
                case SWAYS:
                    told.swaying = readLaw(NAMES_IN_SWAYS, told.swaying);
                    break;
                case DAY:
                    advance();
                    told.startDay = takeNumber(0, LAST_TOLD_DAY);
                    break;
                default:
                    refuse(MISPLACED);
                    break;
            }
        }

        private void readPerson() {
            int p = told.people;
            if (p >= MOST_PEOPLE) {
                refuse(ONE_TOO_MANY);
                return;
            }
            advance();
            int views = 0;
            for (int line = 0; line < MOST_LINES; line++) {
                views = 10 * views + (line < told.lines ? takeNumber(0, 9) : 0);
            }
            told.views[p] = views;
            told.first[p] = 0;
            told.last[p] = NO_LAST_DAY;
            told.temper[p] = 10;
            told.weight[p] = 1;
            boolean more = true;
            for (int i = 0; i < tokens.size && more; i++) {
                more = readFlag(p);
            }
            told.people++;
        }

        private boolean readFlag(int p) {
            switch (token) {
                case IN:
                    advance();
                    told.first[p] = takeNumber(0, LAST_TOLD_DAY);
                    take(TO);
                    told.last[p] = takeNumber(told.first[p], LAST_TOLD_DAY);
                    return true;
                case TEMPER:
                    advance();
                    told.temper[p] = takeNumber(0, 10);
                    return true;
                case WEIGHT:
                    advance();
                    told.weight[p] = takeNumber(1, 99);
                    return true;
                default:
                    return false;
            }
        }

        private Law readLaw(int names, Law older) {
            boolean isSum = token == SWAYS;
            advance();
            take(':');
            codeSize = 0;
            namesAllowed = names;
            if (isSum) {
                readSum(0);
            } else {
                readTruth(0);
            }
            return fault != 0 ? older : new Law(code, codeSize);
        }

        private void add(int step) {
            if (codeSize < code.length) {
                code[codeSize] = step;
                codeSize++;
            }
        }

        /** The depth is how many of not [ ( stand open around what is read. */
        private void readTruth(int depth) {
            readBoth(depth);
            for (int i = 0; i < tokens.size && token == OR; i++) {
                advance();
                readBoth(depth);
                add(SIGN_STEP + OR);
            }
        }

        private void readBoth(int depth) {
            readUnit(depth);
            for (int i = 0; i < tokens.size && token == AND; i++) {
                advance();
                readUnit(depth);
                add(SIGN_STEP + AND);
            }
        }

        private void readUnit(int depth) {
            if (token == NOT) {
                if (goesDeeper(depth)) {
                    readUnit(depth + 1);
                    add(SIGN_STEP + NOT);
                }
            } else if (token == '[') {
                if (goesDeeper(depth)) {
                    readTruth(depth + 1);
                    take(']');
                }
            } else {
                readSum(depth);
                int sign = token;
                if (sign == '=' || sign == '<' || sign == '>') {
                    advance();
                    readSum(depth);
                    add(SIGN_STEP + sign);
                } else {
                    refuse(MISPLACED);
                }
            }
        }

        private boolean goesDeeper(int depth) {
            if (depth >= MOST_NESTED) {
                refuse(ONE_TOO_MANY);
                return false;
            }
            advance();
            return true;
        }

        private void readSum(int depth) {
            readTerm(depth);
            for (int i = 0; i < tokens.size && (token == '+' || token == '-'); i++) {
                int sign = token;
                advance();
                readTerm(depth);
                add(SIGN_STEP + sign);
            }
        }

        private void readTerm(int depth) {
            readAtom(depth);
            for (int i = 0; i < tokens.size && token == '*'; i++) {
                advance();
                readAtom(depth);
                add(SIGN_STEP + '*');
            }
        }

        private void readAtom(int depth) {
            if (token == NUMBER) {
                add(tokens.values[at]);
                advance();
            } else if (token == '(') {
                if (goesDeeper(depth)) {
                    readSum(depth + 1);
                    take(')');
                }
            } else if (token < NAMES && (namesAllowed >> token & 1) == 1) {
                add(NAME_STEP + token);
                advance();
            } else {
                refuse(MISPLACED);
            }
        }
    }

    /** A house and what deeds change in it. */
    private static final class State {
        House house;
        int day = 0;
        int away = 0;
        final int[] views = new int[MOST_PEOPLE];

        State(House told) {
            house = told;
        }

        void begin(House told) {
            house = told;
            day = told.startDay;
            away = 0;
            System.arraycopy(told.views, 0, views, 0, MOST_PEOPLE);
        }

        void takeFrom(State other) {
            house = other.house;
            day = other.day;
            away = other.away;
            System.arraycopy(other.views, 0, views, 0, MOST_PEOPLE);
        }

        int inTown() {
            return inTownOn(day);
        }

        int inTownOn(int onDay) {
            int found = 0;
            for (int p = 0; p < house.people; p++) {
                if (house.first[p] <= onDay && onDay <= house.last[p]) {
                    found |= 1 << p;
                }
            }
            return found & ~away;
        }

        /** 0 if the deed can be. */
        int whyNot(long deed) {
            if (deed == NONE) {
                return 0;
            }
            if (deed >= 0 && deed < SEND) {
                return whyNoTalk((int) deed / 10, (int) deed % 10);
            }
            boolean isSend = deed >= SEND && deed < SEND + 10;
            if (!isSend && (deed < CALL || deed >= CALL + 10)) {
                return NO_SUCH_DEED;
            }
            int p = (int) deed % 10;
            if (p >= house.people) {
                return NO_SUCH_DEED;
            }
            boolean isAway = (away >> p & 1) == 1;
            return isAway == isSend ? NOT_AS_IT_IS : 0;
        }

        private int whyNoTalk(int p, int q) {
            if (p >= house.people || q >= house.people || p == q) {
                return NO_SUCH_DEED;
            }
            int both = 1 << p | 1 << q;
            return (inTown() & both) == both ? 0 : NOT_AS_IT_IS;
        }

        /** Does a deed that can be. */
        void carryOut(long deed, Scales scales) {
            if (deed < 0) {
                day++;
            } else if (deed < SEND) {
                int p = (int) deed / 10;
                views[p] = scales.swayed(this, p, views[p], (int) deed % 10);
            } else if (deed < CALL) {
                away |= 1 << (int) deed % 10;
            } else {
                away &= ~(1 << (int) deed % 10);
            }
        }
    }

    /** What the latest calls that did some found, the latest last. */
    private static final class History {
        int size = 0;
        final State[] past = new State[MOST_UNDONE];

        History(House empty) {
            for (int i = 0; i < MOST_UNDONE; i++) {
                past[i] = new State(empty);
            }
        }

        void forget() {
            size = 0;
        }

        void add(State before) {
            if (size >= MOST_UNDONE) {
                State eldest = past[0];
                for (int i = 1; i < MOST_UNDONE; i++) {
                    past[i - 1] = past[i];
                }
                size = MOST_UNDONE - 1;
                past[size] = eldest;
            }
            past[size].takeFrom(before);
            size++;
        }

        /** Takes n of them back; there are as many. */
        void bringBack(int n, State now) {
            size -= n;
            now.takeFrom(past[size]);
        }
    }

    /** Some numbers of one sort. */
    private static final class Tray {
        int sort = NONE;
        int size = 0;
        final long[] row = new long[MOST_NUMBERS];

        boolean isMissing() {
            return sort == NONE;
        }

        void lay(int newSort, int n) {
            sort = newSort;
            size = n;
            Arrays.fill(row, 0L);
        }

        void put(int i, long v) {
            switch (sort) {
                case 0:
                    row[i] = (byte) v;
                    break;
                case 1:
                    row[i] = (short) v;
                    break;
                case 2:
                    row[i] = (int) v;
                    break;
                default:
                    row[i] = v;
                    break;
            }
        }

        /** Its numbers as deeds, till one can't be: how many. */
        int carryOutIn(State state, Scales scales) {
            int done = 0;
            while (done < size && state.whyNot(row[done]) == 0) {
                state.carryOut(row[done], scales);
                done++;
            }
            return done;
        }
    }

    /** Weighs people by the laws of their house. */
    private static final class Scales {
        final int[] given = new int[NAMES];
        final int[] held = new int[MOST_HELD];

        private void put(int at, int view, int number) {
            given[at] = view / 100;
            given[at + 1] = view / 10 % 10;
            given[at + 2] = view % 10;
            given[at + 3] = number;
        }

        private boolean opposesOneWay(Law law, int p, int view, int q, int otherView) {
            put(EASE, view, p);
            put(UNEASE, otherView, q);
            return law.valueFor(given, held) != 0;
        }

        /** Whether p, were its views so, and q would be opposites on a day. */
        boolean areOpposites(State state, int p, int view, int q, int day) {
            Law law = state.house.opposing;
            int otherView = state.views[q];
            if (law == null) {
                return view / 100 + otherView / 100 == 9;
            }
            given[DAY] = day % WEEK;
            return opposesOneWay(law, p, view, q, otherView)
                    || opposesOneWay(law, q, otherView, p, view);
        }

        /** All the opposites that p, were its views so, would have on a day. */
        int rowOf(State state, int p, int view, int day) {
            int found = 0;
            for (int q = 0; q < state.house.people; q++) {
                if (q != p && areOpposites(state, p, view, q, day)) {
                    found |= 1 << q;
                }
            }
            return found;
        }

        boolean saysAye(State state, int p, int bill) {
            Law law = state.house.saying;
            if (law == null) {
                return state.views[p] / 100 > 4;
            }
            put(EASE, state.views[p], p);
            given[DAY] = state.day % WEEK;
            given[BILL] = bill;
            return law.valueFor(given, held) != 0;
        }

        /** The views that p, were its views so, would have behind a talk with q. */
        int swayed(State state, int p, int view, int q) {
            put(EASE, view, p);
            put(UNEASE, state.views[q], q);
            given[DAY] = state.day % WEEK;
            int then = 0;
            for (int line = 0; line < MOST_LINES; line++) {
                int way = line < state.house.lines ? swayOf(state.house.swaying, line) : 0;
                int moved = given[EASE + line] + Integer.compare(way, 0);
                then = 10 * then + Math.max(0, Math.min(9, moved));
            }
            return then;
        }

        private int swayOf(Law law, int line) {
            if (law == null) {
                return given[UNEASE + line] - given[EASE + line];
            }
            given[LINE] = line;
            return law.valueFor(given, held);
        }
    }

    /** Who opposes whom among all people on one day, and what follows of their sets. */
    private static final class Circle {
        private static final int A_TWO = 1000;
        int people = 0;
        final int[] rows = new int[MOST_PEOPLE];
        /** Of each set in how many ways it can be parted into twos. */
        final int[] partings = new int[ALL_SETS];
        /** Of each set, of its pairs: A_TWO for each, and their weight. */
        final int[] worth = new int[ALL_SETS];

        void draw(State state, int day, Scales scales) {
            people = state.house.people;
            Arrays.fill(rows, 0);
            for (int p = 0; p < people; p++) {
                for (int q = p + 1; q < people; q++) {
                    if (scales.areOpposites(state, p, state.views[p], q, day)) {
                        rows[p] |= 1 << q;
                        rows[q] |= 1 << p;
                    }
                }
            }
        }

        /** Gives p another row, and the others what it asks of theirs. */
        void redraw(int p, int row) {
            rows[p] = row;
            for (int q = 0; q < people; q++) {
                if (q != p) {
                    rows[q] = rows[q] & ~(1 << p) | (row >> q & 1) << p;
                }
            }
        }

        /** The least number of a set that isn't empty: as many bits as lie below its lowest one. */
        private static int lowestOf(int set) {
            return Integer.bitCount((set & -set) - 1);
        }

        /** The depth is how many twos are parted off already. */
        boolean canSit(int set, int depth) {
            if (set == 0) {
                return true;
            }
            if (depth >= MOST_PEOPLE) {
                return false;
            }
            int p = lowestOf(set);
            int partners = rows[p] & set;
            for (int q = p + 1; q < people; q++) {
                if ((partners >> q & 1) == 1 && canSit(set & ~(1 << p | 1 << q), depth + 1)) {
                    return true;
                }
            }
            return false;
        }

        void countPartings() {
            partings[0] = 1;
            for (int set = 1; set < 1 << people; set++) {
                int p = lowestOf(set);
                int partners = rows[p] & set;
                int found = 0;
                for (int q = p + 1; q < people; q++) {
                    if ((partners >> q & 1) == 1) {
                        found += partings[set & ~(1 << p | 1 << q)];
                    }
                }
                partings[set] = found;
            }
        }

        void weighPairs(int[] weights) {
            worth[0] = 0;
            for (int set = 1; set < 1 << people; set++) {
                int p = lowestOf(set);
                int partners = rows[p] & set;
                int most = worth[set & ~(1 << p)];
                for (int q = p + 1; q < people; q++) {
                    if ((partners >> q & 1) == 1) {
                        most = Math.max(most, worthWith(p, q, set, weights));
                    }
                }
                worth[set] = most;
            }
        }

        private int worthWith(int p, int q, int set, int[] weights) {
            return worth[set & ~(1 << p | 1 << q)] + A_TWO + weights[p] + weights[q];
        }

        /** These three ask for weighed pairs. */
        int twosOf(int set) {
            return worth[set] / A_TWO;
        }

        int weightOf(int set) {
            return worth[set] % A_TWO;
        }

        int partnerOf(int asked, int set, int[] weights) {
            int left = set;
            for (int p = 0; p < people; p++) {
                if ((left >> p & 1) == 1) {
                    int q = firstPartner(p, left, weights);
                    if (p == asked) {
                        return q;
                    }
                    if (q == asked) {
                        return p;
                    }
                    left &= ~(1 << p);
                    if (q != NONE) {
                        left &= ~(1 << q);
                    }
                }
            }
            return NONE;
        }

        private int firstPartner(int p, int left, int[] weights) {
            int partners = rows[p] & left;
            for (int q = p + 1; q < people; q++) {
                if ((partners >> q & 1) == 1 && worthWith(p, q, left, weights) == worth[left]) {
                    return q;
                }
            }
            return NONE;
        }

        int countPieces(int set, boolean onlyOdd) {
            int left = set;
            int found = 0;
            for (int i = 0; i < people && left != 0; i++) {
                int piece = pieceOf(left & -left, left);
                left &= ~piece;
                if (!onlyOdd || Integer.bitCount(piece) % 2 == 1) {
                    found++;
                }
            }
            return found;
        }

        private int pieceOf(int start, int set) {
            int piece = start;
            int fresh = start;
            for (int i = 0; i < people && fresh != 0; i++) {
                int p = lowestOf(fresh);
                int met = rows[p] & set & ~piece;
                piece |= met;
                fresh = fresh & ~(1 << p) | met;
            }
            return piece;
        }

        /** Asks for weighed pairs; there is always one. */
        int leastBar(int set) {
            int leftOver = Integer.bitCount(set) - 2 * twosOf(set);
            int found = 0;
            int fewest = MOST_PEOPLE + 1;
            for (int bar = 0; bar <= set; bar++) {
                int size = Integer.bitCount(bar);
                if ((bar & ~set) == 0 && size < fewest
                        && countPieces(set & ~bar, true) - size == leftOver) {
                    found = bar;
                    fewest = size;
                }
            }
            return found;
        }

        int leastCover(int set, int others) {
            int found = NONE;
            int fewest = MOST_PEOPLE + 1;
            for (int cover = 0; cover <= others; cover++) {
                if ((cover & ~others) == 0 && Integer.bitCount(cover) < fewest
                        && opposeAllOf(set, cover)) {
                    found = cover;
                    fewest = Integer.bitCount(cover);
                }
            }
            return found;
        }

        private boolean opposeAllOf(int set, int cover) {
            for (int p = 0; p < people; p++) {
                if ((set >> p & 1) == 1 && (rows[p] & cover) == 0) {
                    return false;
                }
            }
            return true;
        }

        /** Of ten to the size of the set, how many by the tempers come so that they sit. */
        long shareOf(int set, int[] tempers) {
            long sum = 0;
            for (int come = 0; come <= set; come++) {
                if ((come & ~set) == 0 && partings[come] > 0) {
                    long share = 1;
                    for (int p = 0; p < people; p++) {
                        if ((set >> p & 1) == 1) {
                            share *= (come >> p & 1) == 1 ? tempers[p] : 10 - tempers[p];
                        }
                    }
                    sum += share;
                }
            }
            return sum;
        }
    }

    /** The fewest talks till two are opposites; it keeps what it has found till something changes. */
    private static final class Turning {
        int one = NONE;
        int other = NONE;
        int stamp = NONE;
        /** NONE: never. */
        int length = NONE;
        final int[] path = new int[ALL_VIEWS];
        /** Views in the order in which they are met; of each from which one, and by whom. */
        final int[] queue = new int[ALL_VIEWS];
        final int[] from = new int[ALL_VIEWS];
        final int[] by = new int[ALL_VIEWS];

        void seek(State state, int p, int q, Scales scales, int changes) {
            if (one == p && other == q && stamp == changes) {
                return;
            }
            one = p;
            other = q;
            stamp = changes;
            int start = state.views[p];
            if (scales.areOpposites(state, p, start, q, state.day)) {
                length = 0;
            } else if ((state.inTown() >> p & 1) == 0) {
                length = NONE;
            } else {
                trace(start, lastViews(state, scales));
            }
        }

        /** The first views met by which the two are opposites, or NONE. */
        private int lastViews(State state, Scales scales) {
            int partners = state.inTown() & ~(1 << one);
            int start = state.views[one];
            Arrays.fill(from, NONE);
            from[start] = start;
            queue[0] = start;
            int size = 1;
            for (int i = 0; i < size; i++) {
                int view = queue[i];
                for (int r = 0; r < state.house.people; r++) {
                    int then = (partners >> r & 1) == 1 ? scales.swayed(state, one, view, r) : view;
                    if (from[then] == NONE && size < ALL_VIEWS) {
                        from[then] = view;
                        by[then] = r;
                        if (scales.areOpposites(state, one, then, other, state.day)) {
                            return then;
                        }
                        queue[size] = then;
                        size++;
                    }
                }
            }
            return NONE;
        }

        private void trace(int start, int last) {
            length = NONE;
            if (last == NONE) {
                return;
            }
            int steps = 0;
            for (int view = last; view != start && steps < ALL_VIEWS; view = from[view]) {
                steps++;
            }
            length = steps;
            for (int view = last; view != start && steps > 0; view = from[view]) {
                steps--;
                path[steps] = by[view];
            }
        }
    }

    /** The views that one can have by its opposites; it keeps them till something changes. */
    private static final class Guess {
        int one = NONE;
        int opposing = NONE;
        int stamp = NONE;
        int size = 0;
        final int[] fitting = new int[ALL_VIEWS];

        void seek(State state, int p, int set, Scales scales, int changes) {
            if (one == p && opposing == set && stamp == changes) {
                return;
            }
            one = p;
            opposing = set;
            stamp = changes;
            size = 0;
            int step = 1;
            for (int line = state.house.lines; line < MOST_LINES; line++) {
                step *= 10;
            }
            for (int view = 0; view < ALL_VIEWS; view += step) {
                if (fits(view, state, scales)) {
                    fitting[size] = view;
                    size++;
                }
            }
        }

        private boolean fits(int view, State state, Scales scales) {
            int others = state.inTown() & ~(1 << one);
            for (int q = 0; q < state.house.people; q++) {
                if ((others >> q & 1) == 1) {
                    boolean wanted = (opposing >> q & 1) == 1;
                    if (scales.areOpposites(state, one, view, q, state.day) != wanted) {
                        return false;
                    }
                }
            }
            return true;
        }

        int whomToTry(State state, Scales scales) {
            int others = ~state.inTown() & ~(1 << one);
            int found = NONE;
            int most = NONE;
            for (int q = 0; q < state.house.people; q++) {
                if ((others >> q & 1) == 1) {
                    int lesser = lesserPart(q, state, scales);
                    if (lesser > most) {
                        most = lesser;
                        found = q;
                    }
                }
            }
            return found;
        }

        /** How many views tell q an opposite, or how many don't: the lesser. */
        private int lesserPart(int q, State state, Scales scales) {
            int opposed = 0;
            for (int i = 0; i < size; i++) {
                if (scales.areOpposites(state, one, fitting[i], q, state.day)) {
                    opposed++;
                }
            }
            return Math.min(opposed, size - opposed);
        }
    }
}
