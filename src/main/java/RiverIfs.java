import java.util.Arrays;
import java.util.NoSuchElementException;

/**
 * The conditional is across the river: people with what they have and what they missed, IFS by
 * which one thing brings another, and SUNDAYS on which some of them cross THE BRIDGE.
 */
public final class RiverIfs {
    public static final int NONE = -1;

    private static final int THINGS = 10;
    private static final int ALL_THINGS = 1023;
    private static final int ALL_SETS = 1024;
    private static final int MOST_PEOPLE = 8;
    private static final int MOST_IFS = 12;
    private static final int MOST_BYTES = 700;
    private static final int BYTES_OF_A_FEED = 20;
    private static final int MOST_BORNE = 8;
    private static final int BORNE_WITHOUT = 4;
    private static final int MOST_WORTH = 9;
    private static final int MOST_LONGING = 99;
    private static final int MOST_FLOWERS = 99;
    private static final int LONGING_TO_CROSS = 10;
    private static final int MOST_SUNDAYS_AT_ONCE = 20;
    private static final int LAST_SUNDAY = 999;
    private static final int MOST_SUNDAYS_AHEAD = 60;
    private static final int MOST_ACTS = 40;
    private static final int MOST_SEEN = 8;

    private static final int TEXTS_REFUSED = 0;
    private static final int ACTS_REFUSED = 1;
    private static final int SEEN_REFUSED = 2;
    private static final int STATUSES = 3;

    private final Reader reader = new Reader();
    private final State now = new State();
    private final Acts acts = new Acts();
    private final Seen seen = new Seen();
    private final int[] status = new int[STATUSES];
    private final Image kept = new Image();
    private final Sets allSets = new Sets();
    private final int[] supposed = new int[THINGS];
    private final Walk walk;
    private Shore here;
    private int faultPlace = NONE;
    private int seed = 0;

    public RiverIfs() {
        Shore nobodys = new Shore();
        here = nobodys;
        walk = new Walk(nobodys);
    }

    // ---- the text ----

    public int feed(int a, int b, int c, int d, int e) {
        Tape tape = reader.tape;
        if (tape.size + BYTES_OF_A_FEED > MOST_BYTES) {
            return NONE;
        }
        tape.put(a);
        tape.put(b);
        tape.put(c);
        tape.put(d);
        tape.put(e);
        return tape.size;
    }

    public int shore(int n) throws IllegalArgumentException {
        mustBeWithin(n, 0, reader.tape.size);
        int found = reader.read(n);
        reader.tape.size = 0;
        faultPlace = reader.place;
        if (found != 0) {
            status[TEXTS_REFUSED]++;
            return found;
        }
        here = reader.exchange(here);
        now.startFrom(here);
        acts.clear();
        seen.clear();
        kept.there = false;
        return 0;
    }

    public int fault() {
        return faultPlace;
    }

    // ---- what is there ----

    public int count(int what) throws NoSuchElementException {
        switch (what) {
            case 0: return here.people;
            case 1: return here.ifs.size;
            case 2: return now.bears;
            case 3: return now.sunday;
            case 4: return now.crossed;
            case 5: return now.denied;
            case 6: return allSets.idleIfs(here.ifs, now.denied);
            case 7: return here.ifs.endsOf(now.denied);
            case 8: return here.ifs.shortestRing(now.denied);
            case 9: return acts.size;
            case 10: return seen.size;
            case 11: return reader.tape.size;
            case 12: return status[TEXTS_REFUSED];
            case 13: return status[ACTS_REFUSED];
            case 14: return status[SEEN_REFUSED];
            default: throw new NoSuchElementException("no such count");
        }
    }

    public int worth(int thing) throws NoSuchElementException {
        mustBeThing(thing);
        return here.worths[thing];
    }

    public int conditional(int one, int what) throws NoSuchElementException {
        mustBeIf(one);
        switch (what) {
            case 0: return here.ifs.needs[one];
            case 1: return here.ifs.bars[one];
            case 2: return here.ifs.gives[one];
            case 3: return isIn(one, here.ifs.unless) ? 1 : 0;
            case 4: return isIn(one, now.denied) ? 1 : 0;
            default: throw new NoSuchElementException("nothing such of an if");
        }
    }

    public int person(int person, int what) throws NoSuchElementException {
        mustBePerson(person);
        switch (what) {
            case 0: return now.has[person];
            case 1: return now.missed[person];
            case 2: return here.spared[person];
            case 3: return now.longing[person];
            case 4: return now.flowers[person];
            case 5: return here.thereOf(now, person);
            case 6: return here.sparedBankOf(now, person);
            case 7: return wantsNext(person) ? 1 : 0;
            default: throw new NoSuchElementException("nothing such of a person");
        }
    }

    private boolean wantsNext(int person) {
        walk.begin(here, now);
        return walk.wants(person);
    }

    // ---- acts ----

    public int sundays(int many) {
        if (many < 1 || many > MOST_SUNDAYS_AT_ONCE || now.sunday + many > LAST_SUNDAY) {
            return refuseAct();
        }
        acts.keep(now);
        walk.begin(here, now);
        for (int i = 0; i < many; i++) {
            walk.step();
        }
        now.copyFrom(walk.state);
        return now.sunday;
    }

    public int has(int person, int thing, boolean is) throws NoSuchElementException {
        mustBePerson(person);
        mustBeThing(thing);
        if (isIn(thing, now.has[person]) == is) {
            return refuseAct();
        }
        acts.keep(now);
        now.has[person] ^= 1 << thing;
        return now.has[person];
    }

    public int miss(int person, int thing) throws NoSuchElementException {
        mustBePerson(person);
        mustBeThing(thing);
        int was = now.missed[person];
        if (was == thing) {
            return refuseAct();
        }
        acts.keep(now);
        now.missed[person] = thing;
        return was;
    }

    public boolean deny(int one, boolean is) throws NoSuchElementException {
        mustBeIf(one);
        if (isIn(one, now.denied) == is) {
            refuseAct();
            return false;
        }
        acts.keep(now);
        now.denied ^= 1 << one;
        return true;
    }

    public int bridge(int bears) {
        if (bears < 1 || bears > MOST_BORNE) {
            return refuseAct();
        }
        int bore = now.bears;
        acts.keep(now);
        now.bears = bears;
        return bore;
    }

    private int refuseAct() {
        status[ACTS_REFUSED]++;
        return NONE;
    }

    public int undo() {
        return acts.takeBack(now) ? acts.size : NONE;
    }

    // ---- if only SUNDAYS go by ----

    public int crossing(int k) throws IllegalArgumentException {
        mustBeWithin(k, 1, MOST_SUNDAYS_AHEAD);
        walk.begin(here, now);
        for (int i = 0; i < k; i++) {
            walk.step();
        }
        return walk.state.crossed;
    }

    public int then(int person, int sundays, int what)
            throws NoSuchElementException, IllegalArgumentException {
        mustBePerson(person);
        mustBeWhat(what, 1);
        mustBeWithin(sundays, 0, MOST_SUNDAYS_AHEAD);
        walk.begin(here, now);
        for (int i = 0; i < sundays; i++) {
            walk.step();
        }
        return what == 0 ? walk.state.longing[person] : walk.state.flowers[person];
    }

    public int first(int person) throws NoSuchElementException {
        mustBePerson(person);
        walk.begin(here, now);
        for (int k = 1; k <= MOST_SUNDAYS_AHEAD; k++) {
            walk.step();
            if (isIn(person, walk.state.crossed)) {
                return k;
            }
        }
        return NONE;
    }

    public int waiting(int person, int sundays)
            throws NoSuchElementException, IllegalArgumentException {
        mustBePerson(person);
        mustBeWithin(sundays, 0, MOST_SUNDAYS_AHEAD);
        walk.begin(here, now);
        int waits = 0;
        for (int i = 0; i < sundays; i++) {
            walk.step();
            if (isIn(person, walk.leftBehind())) {
                waits++;
            }
        }
        return waits;
    }

    public int toBear(int sundays) throws IllegalArgumentException {
        mustBeWithin(sundays, 0, MOST_SUNDAYS_AHEAD);
        for (int bears = 1; bears < MOST_BORNE; bears++) {
            if (!somebodyWaits(sundays, bears)) {
                return bears;
            }
        }
        // There are never more people than it bears at most.
        return MOST_BORNE;
    }

    private boolean somebodyWaits(int sundays, int bears) {
        walk.begin(here, now);
        walk.state.bears = bears;
        for (int i = 0; i < sundays; i++) {
            walk.step();
            if (walk.leftBehind() != 0) {
                return true;
            }
        }
        return false;
    }

    public int times(int person, int sundays)
            throws NoSuchElementException, IllegalArgumentException {
        mustBePerson(person);
        mustBeWithin(sundays, 0, MOST_SUNDAYS_AHEAD);
        walk.begin(here, now);
        int crossed = 0;
        for (int i = 0; i < sundays; i++) {
            walk.step();
            if (isIn(person, walk.state.crossed)) {
                crossed++;
            }
        }
        return crossed;
    }

    public int fullest(int sundays, int what)
            throws NoSuchElementException, IllegalArgumentException {
        mustBeWhat(what, 1);
        mustBeWithin(sundays, 1, MOST_SUNDAYS_AHEAD);
        walk.begin(here, now);
        int which = 0;
        int most = NONE;
        for (int k = 1; k <= sundays; k++) {
            walk.step();
            int many = Integer.bitCount(walk.state.crossed);
            if (many > most) {
                most = many;
                which = k;
            }
        }
        return what == 0 ? which : most;
    }

    // ---- THINGS and IFS ----

    public int comes(int things) throws IllegalArgumentException {
        mustBeWithin(things, 0, ALL_THINGS);
        return here.ifs.allFrom(things, now.denied);
    }

    public int why(int things, int thing)
            throws NoSuchElementException, IllegalArgumentException {
        mustBeThing(thing);
        mustBeWithin(things, 0, ALL_THINGS);
        return allSets.fewestSteps(here.ifs, now.denied, things, thing);
    }

    public int needed(int things, int thing)
            throws NoSuchElementException, IllegalArgumentException {
        mustBeThing(thing);
        mustBeWithin(things, 0, ALL_THINGS);
        if (!isIn(thing, here.ifs.allFrom(things, now.denied))) {
            return 0;
        }
        int found = 0;
        for (int one = 0; one < here.ifs.size; one++) {
            int without = here.ifs.allFrom(things, now.denied | 1 << one);
            if (!isIn(thing, without)) {
                found |= 1 << one;
            }
        }
        return found;
    }

    public int fewest(int things, int thing)
            throws NoSuchElementException, IllegalArgumentException {
        mustBeThing(thing);
        mustBeWithin(things, 0, ALL_THINGS);
        int best = NONE;
        int few = THINGS + 1;
        for (int more = 0; more < ALL_SETS; more++) {
            if (isIn(thing, more) || Integer.bitCount(more) >= few) {
                continue;
            }
            if (isIn(thing, here.ifs.allFrom(things | more, now.denied))) {
                best = more;
                few = Integer.bitCount(more);
            }
        }
        return best;
    }

    public boolean leads(int thing, int other) throws NoSuchElementException {
        mustBeThing(thing);
        mustBeThing(other);
        return here.ifs.stepsTo(thing, other, now.denied) != NONE;
    }

    public int sources(int thing) throws NoSuchElementException {
        mustBeThing(thing);
        int found = 0;
        for (int from = 0; from < THINGS; from++) {
            if (here.ifs.stepsTo(from, thing, now.denied) != NONE) {
                found |= 1 << from;
            }
        }
        return found;
    }

    public int resting() {
        int found = 0;
        for (int things = 0; things < ALL_SETS; things++) {
            if (here.ifs.firstBringing(things, now.denied, 0) == NONE) {
                found++;
            }
        }
        return found;
    }

    public int sets(int thing) throws NoSuchElementException {
        mustBeThing(thing);
        return allSets.howManyBring(here.ifs, now.denied, thing);
    }

    public int toDeny(int things, int thing)
            throws NoSuchElementException, IllegalArgumentException {
        mustBeThing(thing);
        mustBeWithin(things, 0, ALL_THINGS);
        int best = NONE;
        int few = MOST_IFS + 1;
        int all = 1 << here.ifs.size;
        for (int more = 0; more < all; more++) {
            if (Integer.bitCount(more) >= few) {
                continue;
            }
            if (!isIn(thing, here.ifs.allFrom(things, now.denied | more))) {
                best = more;
                few = Integer.bitCount(more);
            }
        }
        return best;
    }

    // ---- PEOPLE ----

    public int like(int person, int what) throws NoSuchElementException {
        mustBePerson(person);
        mustBeWhat(what, 1);
        int there = here.thereOf(now, person);
        int found = 0;
        for (int other = 0; other < here.people; other++) {
            int others = what == 0 ? here.thereOf(now, other) : now.has[other];
            if (others == there) {
                found |= 1 << other;
            }
        }
        return found;
    }

    public int toSend(int many) throws IllegalArgumentException {
        mustBeWithin(many, 0, MOST_PEOPLE);
        walk.begin(here, now);
        int best = NONE;
        int most = NONE;
        int all = 1 << here.people;
        for (int sent = 0; sent < all; sent++) {
            if (Integer.bitCount(sent) != many) {
                continue;
            }
            int found = Integer.bitCount(walk.thereOfAll(sent));
            if (found > most) {
                most = found;
                best = sent;
            }
        }
        return best;
    }

    public int happiest(int what) throws NoSuchElementException {
        mustBeWhat(what, 2);
        int best = NONE;
        int most = 0;
        for (int person = 0; person < here.people; person++) {
            int worth = here.worthOf(bankOf(person, what));
            if (best == NONE || worth > most) {
                most = worth;
                best = person;
            }
        }
        return best;
    }

    private int bankOf(int person, int what) {
        if (what == 0) {
            return now.has[person];
        }
        return what == 1 ? here.thereOf(now, person) : here.sparedBankOf(now, person);
    }

    public int critical(int person) throws NoSuchElementException {
        mustBePerson(person);
        int things = now.has[person] | 1 << now.missed[person];
        int there = here.ifs.allFrom(things, now.denied);
        int found = 0;
        for (int one = 0; one < here.ifs.size; one++) {
            if (here.ifs.allFrom(things, now.denied | 1 << one) != there) {
                found |= 1 << one;
            }
        }
        return found;
    }

    public int bestMissed(int person) throws NoSuchElementException {
        mustBePerson(person);
        supposeEachMissed(person);
        int best = 0;
        for (int thing = 1; thing < THINGS; thing++) {
            if (here.worthOf(supposed[thing]) > here.worthOf(supposed[best])) {
                best = thing;
            }
        }
        return best;
    }

    public int common(int person, int other) throws NoSuchElementException {
        mustBePerson(person);
        mustBePerson(other);
        return here.thereOf(now, person) & here.thereOf(now, other);
    }

    public int apart(int person, int other) throws NoSuchElementException {
        mustBePerson(person);
        mustBePerson(other);
        return Integer.bitCount(here.thereOf(now, person) ^ here.thereOf(now, other));
    }

    public int unhad() {
        int had = 0;
        for (int person = 0; person < here.people; person++) {
            had |= here.thereOf(now, person);
        }
        return ALL_THINGS & ~had;
    }

    // ---- what is SEEN ----

    public int see(int person, int thing, boolean has) throws NoSuchElementException {
        mustBePerson(person);
        mustBeThing(thing);
        if (!seen.put(person, thing, has)) {
            status[SEEN_REFUSED]++;
            return NONE;
        }
        return seen.size;
    }

    public int tells(int person) throws NoSuchElementException {
        mustBePerson(person);
        supposeEachMissed(person);
        return thatAgree(person);
    }

    public int look(int person, int what) throws NoSuchElementException {
        mustBePerson(person);
        mustBeWhat(what, 1);
        supposeEachMissed(person);
        int perhaps = thatAgree(person);
        if (perhaps == 0) {
            return what == 0 ? NONE : 0;
        }
        int best = 0;
        int most = NONE;
        for (int thing = 0; thing < THINGS; thing++) {
            int having = howManyWith(thing, perhaps);
            int lesser = Math.min(having, Integer.bitCount(perhaps) - having);
            if (lesser > most) {
                most = lesser;
                best = thing;
            }
        }
        return what == 0 ? best : most;
    }

    public void forget() {
        seen.clear();
    }

    /** Puts what THERE would be, were each THING the one that this person MISSED. */
    private void supposeEachMissed(int person) {
        for (int thing = 0; thing < THINGS; thing++) {
            supposed[thing] = here.ifs.allFrom(now.has[person] | 1 << thing, now.denied);
        }
    }

    private int thatAgree(int person) {
        int found = 0;
        for (int thing = 0; thing < THINGS; thing++) {
            if (seen.agrees(person, supposed[thing])) {
                found |= 1 << thing;
            }
        }
        return found;
    }

    private int howManyWith(int thing, int perhaps) {
        int found = 0;
        for (int missed = 0; missed < THINGS; missed++) {
            if (isIn(missed, perhaps) && isIn(thing, supposed[missed])) {
                found++;
            }
        }
        return found;
    }

    // ---- a game, years ----

    public int game(int person, int other, int what)
            throws NoSuchElementException, IllegalArgumentException {
        mustBePerson(person);
        mustBePerson(other);
        mustBeWhat(what, 1);
        if (person == other) {
            throw new IllegalArgumentException("a game is one of two");
        }
        walk.begin(here, now);
        int shared = Integer.bitCount(walk.there[person] & walk.there[other]);
        int found = 0;
        int first = NONE;
        for (int couple = 0; couple < 4; couple++) {
            int mine = couple >> 1;
            int others = couple & 1;
            if (isContent(mine, others, walk.gainOf(person), shared)
                    && isContent(others, mine, walk.gainOf(other), shared)) {
                found++;
                first = first == NONE ? 10 * mine + others : first;
            }
        }
        return what == 0 ? found : first;
    }

    private static boolean isContent(int mine, int others, int alone, int shared) {
        return gained(mine, others, alone, shared) >= gained(1 - mine, others, alone, shared);
    }

    private static int gained(int mine, int others, int alone, int shared) {
        if (mine == 0) {
            return 1;
        }
        return others == 0 ? alone : alone / 2 + 2 * shared;
    }

    public int years(int seed, int n, int what)
            throws NoSuchElementException, IllegalArgumentException {
        mustBeWhat(what, 2);
        mustBeWithin(n, 0, MOST_SUNDAYS_AHEAD);
        walk.begin(here, now);
        this.seed = seed;
        int crossings = 0;
        for (int i = 0; i < n; i++) {
            drawAhead();
            walk.step();
            crossings += Integer.bitCount(walk.state.crossed);
        }
        if (what == 0) {
            return crossings;
        }
        return totalOf(what == 1 ? walk.state.flowers : walk.state.longing);
    }

    private void drawAhead() {
        int kind = draw(6);
        if (kind > 2 || here.people == 0) {
            return;
        }
        int person = draw(here.people);
        int thing = draw(THINGS);
        walk.change(kind, person, thing);
    }

    private int draw(int n) {
        seed = seed * 1103515245 + 12345;
        return n < 1 ? 0 : (seed >>> 16 & 32767) % n;
    }

    private int totalOf(int[] row) {
        int total = 0;
        for (int person = 0; person < here.people; person++) {
            total += row[person];
        }
        return total;
    }

    // ---- the image ----

    public void image() {
        kept.state.copyFrom(now);
        kept.acts.copyFrom(acts);
        kept.seen.copyFrom(seen);
        System.arraycopy(status, 0, kept.status, 0, STATUSES);
        kept.there = true;
    }

    public boolean restore() {
        if (!kept.there) {
            return false;
        }
        now.copyFrom(kept.state);
        acts.copyFrom(kept.acts);
        seen.copyFrom(kept.seen);
        System.arraycopy(kept.status, 0, status, 0, STATUSES);
        return true;
    }

    // ---- what callers may ask ----

    private static void mustBeThing(int thing) {
        if (thing < 0 || thing >= THINGS) {
            throw new NoSuchElementException("no such thing");
        }
    }

    private void mustBeIf(int one) {
        if (one < 0 || one >= here.ifs.size) {
            throw new NoSuchElementException("no such if");
        }
    }

    private void mustBePerson(int person) {
        if (person < 0 || person >= here.people) {
            throw new NoSuchElementException("no such person");
        }
    }

    private static void mustBeWhat(int what, int most) {
        if (what < 0 || what > most) {
            throw new NoSuchElementException("no such what");
        }
    }

    private static void mustBeWithin(int number, int least, int most) {
        if (number < least || number > most) {
            throw new IllegalArgumentException("a number out of its bounds");
        }
    }

    private static boolean isIn(int member, int bits) {
        return (bits >> member & 1) != 0;
    }

    /** The bytes that were fed, and the TOKENS of a text at their beginning, one at a time. */
    private static final class Tape {
        static final int END = 0;
        static final int WORD = 1;
        static final int NUMBER = 2;
        static final int SIGN = 3;
        static final int NO_TOKEN = 4;
        private static final int MOST_DIGITS = 4;

        private final byte[] bytes = new byte[MOST_BYTES];
        private int length = 0;
        private int next = 0;
        private int first = NONE;
        int size = 0;
        int place = 0;
        int kind = END;

        void put(int number) {
            for (int shift = 24; shift >= 0 && size < bytes.length; shift -= 8) {
                bytes[size] = (byte) (number >>> shift);
                size++;
            }
        }

        void start(int textLength) {
            length = Math.min(textLength, bytes.length);
            next = 0;
            advance();
        }

        void advance() {
            place = next;
            while (place < length && isBlank(byteAt(place))) {
                place++;
            }
            first = byteAt(place);
            kind = kindOf(first);
            next = Math.min(place + 1, length);
            if (kind == WORD || kind == NUMBER) {
                while (next < length && kindOf(byteAt(next)) == kind) {
                    next++;
                }
            }
        }

        /** What the text has there; NONE behind its end. */
        private int byteAt(int at) {
            return at >= 0 && at < length ? bytes[at] & 255 : NONE;
        }

        private static boolean isBlank(int sign) {
            return sign == ' ' || sign == '\n';
        }

        private static int kindOf(int sign) {
            if (sign == NONE) {
                return END;
            }
            if (sign >= 'a' && sign <= 'z') {
                return WORD;
            }
            if (sign >= '0' && sign <= '9') {
                return NUMBER;
            }
            return ";()+-*/<=".indexOf((char) sign) >= 0 ? SIGN : NO_TOKEN;
        }

        boolean wordIs(String word) {
            if (kind != WORD || next - place != word.length()) {
                return false;
            }
            for (int i = 0; i < word.length(); i++) {
                if (byteAt(place + i) != word.charAt(i)) {
                    return false;
                }
            }
            return true;
        }

        boolean signIs(char sign) {
            return kind == SIGN && first == sign;
        }

        /** The NUMBER that stands here; NONE if it has too many digits. */
        int numberHere() {
            if (kind != NUMBER || next - place > MOST_DIGITS) {
                return NONE;
            }
            int number = 0;
            for (int at = place; at < next; at++) {
                number = number * 10 + byteAt(at) - '0';
            }
            return number;
        }
    }

    /** Reads a text as a SHORE into a draft of its own, up to the first FAULT. */
    private static final class Reader {
        private static final int OUT_OF_PLACE = 1;
        private static final int TOO_MUCH = 2;
        private static final int NO_VALUE = 3;
        private static final int TOLD_ALREADY = 4;
        private static final int A_SECOND = 5;
        private static final int MOST_WITHIN = 6;
        private static final int MOST_NOTS = 6;

        final Tape tape = new Tape();
        private Shore draft = new Shore();
        private int found = 0;
        int place = NONE;

        /** Gives the draft away, and takes another shore's rows for the next one. */
        Shore exchange(Shore other) {
            Shore told = draft;
            draft = other;
            return told;
        }

        int read(int length) {
            found = 0;
            place = NONE;
            draft.clear();
            tape.start(length);
            for (int line = 0; line <= length && tape.kind != Tape.END; line++) {
                if (!readLine()) {
                    return found;
                }
            }
            return 0;
        }

        private boolean refuse(int number) {
            found = number;
            place = tape.place;
            return false;
        }

        private boolean readLine() {
            if (tape.wordIs("worth")) {
                return readWorth();
            }
            if (tape.wordIs("person")) {
                return readPerson();
            }
            if (tape.wordIs("if")) {
                return readIf(false);
            }
            if (tape.wordIs("unless")) {
                return readIf(true);
            }
            if (tape.wordIs("bridge")) {
                return readBridge();
            }
            return tape.wordIs("crosses") ? readCrosses() : refuse(OUT_OF_PLACE);
        }

        private boolean readWorth() {
            tape.advance();
            int thing = numberWithin(0, THINGS - 1);
            if (thing == NONE) {
                return false;
            }
            if (isIn(thing, draft.worthsTold)) {
                return refuse(TOLD_ALREADY);
            }
            tape.advance();
            boolean below = tape.signIs('-');
            if (below) {
                tape.advance();
            }
            int worth = takeWithin(0, MOST_WORTH);
            if (worth == NONE) {
                return false;
            }
            draft.tellWorth(thing, below ? -worth : worth);
            return takeSign(';');
        }

        private boolean readPerson() {
            if (draft.people >= MOST_PEOPLE) {
                return refuse(TOO_MUCH);
            }
            tape.advance();
            int has = takeWithin(0, ALL_THINGS);
            int missed = has == NONE ? NONE : takeWithin(0, THINGS - 1);
            int spared = missed == NONE ? NONE : takeWithin(0, THINGS - 1);
            int longing = spared == NONE ? NONE : takeWithin(0, MOST_LONGING);
            if (longing == NONE) {
                return false;
            }
            draft.addPerson(has, missed, spared, longing);
            return takeSign(';');
        }

        private boolean readIf(boolean unless) {
            if (draft.ifs.size >= MOST_IFS) {
                return refuse(TOO_MUCH);
            }
            tape.advance();
            int needs = takeWithin(0, ALL_THINGS);
            int bars = needs == NONE ? NONE : takeWithin(0, ALL_THINGS);
            int gives = bars == NONE ? NONE : takeWithin(0, THINGS - 1);
            if (gives == NONE) {
                return false;
            }
            draft.ifs.add(needs, bars, gives, unless);
            return takeSign(';');
        }

        private boolean readBridge() {
            if (draft.bridgeTold) {
                return refuse(A_SECOND);
            }
            tape.advance();
            int bears = takeWithin(1, MOST_BORNE);
            if (bears == NONE) {
                return false;
            }
            draft.bears = bears;
            draft.bridgeTold = true;
            return takeSign(';');
        }

        private boolean readCrosses() {
            if (draft.rule.isTold()) {
                return refuse(A_SECOND);
            }
            tape.advance();
            return readExpr(0) && takeSign(';');
        }

        private boolean takeSign(char sign) {
            if (!tape.signIs(sign)) {
                return refuse(OUT_OF_PLACE);
            }
            tape.advance();
            return true;
        }

        /** The NUMBER that stands here; NONE, and a FAULT, if none stands or another must. */
        private int numberWithin(int least, int most) {
            if (tape.kind != Tape.NUMBER) {
                refuse(OUT_OF_PLACE);
                return NONE;
            }
            int number = tape.numberHere();
            if (number < least || number > most) {
                refuse(TOO_MUCH);
                return NONE;
            }
            return number;
        }

        private int takeWithin(int least, int most) {
            int number = numberWithin(least, most);
            if (number != NONE) {
                tape.advance();
            }
            return number;
        }

        private boolean readExpr(int within) {
            if (within >= MOST_WITHIN && startsSomething()) {
                return refuse(TOO_MUCH);
            }
            return readRow(Rule.OR_LEVEL, within);
        }

        private boolean startsSomething() {
            return tape.kind == Tape.NUMBER || tape.kind == Tape.WORD
                    || tape.signIs('(');
        }

        /** Reads parts of one level of the grammar, with its operators between them. */
        private boolean readRow(int level, int within) {
            if (level > Rule.PRODUCT_LEVEL) {
                return readPart(within);
            }
            int nots = level == Rule.TEST_LEVEL ? takeNots() : 0;
            if (nots == NONE || !readRow(level + 1, within)) {
                return false;
            }
            int most = level == Rule.TEST_LEVEL ? 1 : MOST_BYTES;
            for (int i = 0; i < most; i++) {
                int operator = operatorHere(level);
                if (operator == NONE) {
                    break;
                }
                tape.advance();
                if (!readRow(level + 1, within)) {
                    return false;
                }
                draft.rule.add(operator);
            }
            for (int i = 0; i < nots; i++) {
                draft.rule.add(Rule.NOT);
            }
            return true;
        }

        /** How many stand side by side; NONE, and a FAULT, if they are too many. */
        private int takeNots() {
            int nots = 0;
            while (nots < MOST_NOTS && tape.wordIs("not")) {
                nots++;
                tape.advance();
            }
            if (tape.wordIs("not")) {
                refuse(TOO_MUCH);
                return NONE;
            }
            return nots;
        }

        private int operatorHere(int level) {
            switch (level) {
                case Rule.OR_LEVEL:
                    return tape.wordIs("or") ? Rule.OR : NONE;
                case Rule.AND_LEVEL:
                    return tape.wordIs("and") ? Rule.AND : NONE;
                case Rule.TEST_LEVEL:
                    return signHere('<', Rule.LESS, '=', Rule.SAME);
                case Rule.SUM_LEVEL:
                    return signHere('+', Rule.PLUS, '-', Rule.MINUS);
                default:
                    return signHere('*', Rule.TIMES, '/', Rule.OVER);
            }
        }

        private int signHere(char sign, int operator, char other, int otherOperator) {
            if (tape.signIs(sign)) {
                return operator;
            }
            return tape.signIs(other) ? otherOperator : NONE;
        }

        private boolean readPart(int within) {
            if (tape.kind == Tape.NUMBER) {
                return putPart(numberWithin(0, Rule.MOST_NUMBER));
            }
            if (tape.kind == Tape.WORD) {
                int value = valueHere();
                return value == NONE ? refuse(NO_VALUE) : putPart(value);
            }
            if (!takeSign('(')) {
                return false;
            }
            return readExpr(within + 1) && takeSign(')');
        }

        private boolean putPart(int code) {
            if (code == NONE) {
                return false;
            }
            draft.rule.add(code);
            tape.advance();
            return true;
        }

        private int valueHere() {
            if (tape.wordIs("longing")) {
                return Rule.LONGING;
            }
            if (tape.wordIs("here")) {
                return Rule.HERE;
            }
            if (tape.wordIs("there")) {
                return Rule.THERE;
            }
            if (tape.wordIs("spared")) {
                return Rule.SPARED;
            }
            if (tape.wordIs("sunday")) {
                return Rule.SUNDAY;
            }
            if (tape.wordIs("flowers")) {
                return Rule.FLOWERS;
            }
            return tape.wordIs("last") ? Rule.LAST : NONE;
        }
    }

    /** An EXPR, its operators behind what they work on; NUMBERS stand for themselves. */
    private static final class Rule {
        static final int OR_LEVEL = 0;
        static final int AND_LEVEL = 1;
        static final int TEST_LEVEL = 2;
        static final int SUM_LEVEL = 3;
        static final int PRODUCT_LEVEL = 4;

        static final int MOST_NUMBER = 9999;
        static final int LONGING = 10000;
        static final int HERE = 10001;
        static final int THERE = 10002;
        static final int SPARED = 10003;
        static final int SUNDAY = 10004;
        static final int FLOWERS = 10005;
        static final int LAST = 10006;
        static final int NOT = 10007;
        static final int OR = 10008;
        static final int AND = 10009;
        static final int LESS = 10010;
        static final int SAME = 10011;
        static final int PLUS = 10012;
        static final int MINUS = 10013;
        static final int TIMES = 10014;
        static final int OVER = 10015;

        static final int VALUES = 7;
        // Five operators may wait for their right side in each of seven EXPRS: 64 is above that.
        private static final int MOST_WAITING = 64;

        private final int[] code = new int[MOST_BYTES];
        private final int[] stack = new int[MOST_WAITING];
        private int size;

        void clear() {
            size = 0;
        }

        boolean isTold() {
            return size > 0;
        }

        void add(int one) {
            if (size < code.length) {
                code[size] = one;
                size++;
            }
        }

        /** What it gives by the VALUES of one of PEOPLE, in the order of their numbers. */
        int reckon(int[] values) {
            int top = 0;
            for (int i = 0; i < size; i++) {
                int one = code[i];
                if (one <= LAST) {
                    if (top >= stack.length) {
                        return 0;
                    }
                    stack[top] = one <= MOST_NUMBER ? one : values[one - LONGING];
                    top++;
                } else if (one == NOT) {
                    if (top < 1) {
                        return 0;
                    }
                    stack[top - 1] = stack[top - 1] == 0 ? 1 : 0;
                } else {
                    if (top < 2) {
                        return 0;
                    }
                    stack[top - 2] = applied(one, stack[top - 2], stack[top - 1]);
                    top--;
                }
            }
            return top == 1 ? stack[0] : 0;
        }

        private static int applied(int operator, int a, int b) {
            switch (operator) {
                case OR: return a != 0 || b != 0 ? 1 : 0;
                case AND: return a != 0 && b != 0 ? 1 : 0;
                case LESS: return a < b ? 1 : 0;
                case SAME: return a == b ? 1 : 0;
                case PLUS: return a + b;
                case MINUS: return a - b;
                case TIMES: return a * b;
                default: return b == 0 ? 0 : a / b;
            }
        }
    }

    /** What a text tells: all that no ACT changes, and what PEOPLE have at first. */
    private static final class Shore {
        final int[] worths = new int[THINGS];
        final Ifs ifs = new Ifs();
        final Rule rule = new Rule();
        final int[] spared = new int[MOST_PEOPLE];
        private final int[] hasFirst = new int[MOST_PEOPLE];
        private final int[] missedFirst = new int[MOST_PEOPLE];
        private final int[] longingFirst = new int[MOST_PEOPLE];
        int people = 0;
        int worthsTold = 0;
        int bears = BORNE_WITHOUT;
        boolean bridgeTold = false;

        void clear() {
            Arrays.fill(worths, 0);
            ifs.clear();
            rule.clear();
            people = 0;
            worthsTold = 0;
            bears = BORNE_WITHOUT;
            bridgeTold = false;
        }

        void tellWorth(int thing, int worth) {
            worths[thing] = worth;
            worthsTold |= 1 << thing;
        }

        void addPerson(int has, int missed, int sparedOf, int longing) {
            if (people >= MOST_PEOPLE) {
                return;
            }
            hasFirst[people] = has;
            missedFirst[people] = missed;
            spared[people] = sparedOf;
            longingFirst[people] = longing;
            people++;
        }

        int worthOf(int things) {
            int total = 0;
            for (int thing = 0; thing < THINGS; thing++) {
                if (isIn(thing, things)) {
                    total += worths[thing];
                }
            }
            return total;
        }

        int thereOf(State state, int person) {
            return ifs.allFrom(state.has[person] | 1 << state.missed[person], state.denied);
        }

        int sparedBankOf(State state, int person) {
            return ifs.allFrom(state.has[person] & ~(1 << spared[person]), state.denied);
        }
    }

    /** The IFS, and what comes of THINGS by them. */
    private static final class Ifs {
        final int[] needs = new int[MOST_IFS];
        final int[] bars = new int[MOST_IFS];
        final int[] gives = new int[MOST_IFS];
        int unless = 0;
        int size = 0;

        void clear() {
            unless = 0;
            size = 0;
        }

        void add(int itsNeeds, int itsBars, int itsGives, boolean isUnless) {
            if (size >= MOST_IFS) {
                return;
            }
            needs[size] = itsNeeds;
            bars[size] = itsBars;
            gives[size] = itsGives;
            unless |= isUnless ? 1 << size : 0;
            size++;
        }

        /** The first IF, from a told one on, that brings something; NONE if none does. */
        int firstBringing(int things, int denied, int from) {
            for (int one = from; one < size; one++) {
                boolean allAreThere = (things & needs[one]) == needs[one];
                if (allAreThere != isIn(one, unless)
                        && (things & bars[one]) == 0
                        && !isIn(gives[one], things)
                        && !isIn(one, denied)) {
                    return one;
                }
            }
            return NONE;
        }

        /** WHAT COMES of some THINGS. */
        int allFrom(int things, int denied) {
            int all = things;
            // Each round brings a THING that wasn't there: there are no more rounds than THINGS.
            for (int round = 0; round < THINGS; round++) {
                int one = firstBringing(all, denied, 0);
                if (one == NONE) {
                    break;
                }
                all |= 1 << gives[one];
            }
            return all;
        }

        /** The THINGS to which some THINGS LEAD by one IF. */
        private int ledFrom(int things, int denied) {
            int led = 0;
            for (int one = 0; one < size; one++) {
                if (!isIn(one, denied) && (needs[one] & things) != 0) {
                    led |= 1 << gives[one];
                }
            }
            return led;
        }

        /** By how few IFS a THING LEADS to another one, or to itself; NONE if it doesn't. */
        int stepsTo(int thing, int other, int denied) {
            int reached = 1 << thing;
            for (int steps = 1; steps <= THINGS; steps++) {
                reached = ledFrom(reached, denied);
                if (isIn(other, reached)) {
                    return steps;
                }
            }
            return NONE;
        }

        int shortestRing(int denied) {
            int fewest = NONE;
            for (int thing = 0; thing < THINGS; thing++) {
                int steps = stepsTo(thing, thing, denied);
                if (steps != NONE && (fewest == NONE || steps < fewest)) {
                    fewest = steps;
                }
            }
            return fewest;
        }

        int endsOf(int denied) {
            int needed = 0;
            int given = 0;
            for (int one = 0; one < size; one++) {
                if (!isIn(one, denied)) {
                    needed |= needs[one];
                    given |= 1 << gives[one];
                }
            }
            return needed & ~given;
        }
    }

    /** What is asked of all sets of THINGS. An IF makes of a set a greater one, as bits. */
    private static final class Sets {
        private final int[] all = new int[ALL_SETS];
        private final int[] reached = new int[ALL_SETS];

        private void fill(Ifs ifs, int denied) {
            for (int things = ALL_THINGS; things >= 0; things--) {
                int one = ifs.firstBringing(things, denied, 0);
                all[things] = one == NONE ? things : all[things | 1 << ifs.gives[one]];
            }
        }

        int howManyBring(Ifs ifs, int denied, int thing) {
            fill(ifs, denied);
            int found = 0;
            for (int things = 0; things < ALL_SETS; things++) {
                if (isIn(thing, all[things])) {
                    found++;
                }
            }
            return found;
        }

        /**
         * Denying an IF changes just the sets in which it is the first that brings something:
         * there the next one behind it comes to its turn. Of the sets by which it isn't idle, the
         * greatest shows it that way, as nothing is changed in the greater ones.
         */
        int idleIfs(Ifs ifs, int denied) {
            fill(ifs, denied);
            int idle = (1 << ifs.size) - 1 & ~denied;
            for (int things = 0; things < ALL_SETS; things++) {
                int one = ifs.firstBringing(things, denied, 0);
                if (one == NONE) {
                    continue;
                }
                int next = ifs.firstBringing(things, denied, one + 1);
                int without = next == NONE ? things : all[things | 1 << ifs.gives[next]];
                if (without != all[things]) {
                    idle &= ~(1 << one);
                }
            }
            return idle;
        }

        /** By how few IFS, in any order, a THING comes of some; NONE if it doesn't. */
        int fewestSteps(Ifs ifs, int denied, int from, int thing) {
            Arrays.fill(reached, 0);
            reached[from] = 1;
            int fewest = NONE;
            for (int things = from; things < ALL_SETS; things++) {
                if (reached[things] == 0) {
                    continue;
                }
                if (isIn(thing, things)) {
                    int steps = Integer.bitCount(things) - Integer.bitCount(from);
                    fewest = fewest == NONE ? steps : Math.min(fewest, steps);
                }
                reachOn(ifs, denied, things);
            }
            return fewest;
        }

        private void reachOn(Ifs ifs, int denied, int things) {
            int one = ifs.firstBringing(things, denied, 0);
            for (int i = 0; i < MOST_IFS && one != NONE; i++) {
                reached[things | 1 << ifs.gives[one]] = 1;
                one = ifs.firstBringing(things, denied, one + 1);
            }
        }
    }

    /** All that SUNDAYS and ACTS change. */
    private static final class State {
        static final int ROW = 4 * MOST_PEOPLE + 4;

        final int[] has = new int[MOST_PEOPLE];
        final int[] missed = new int[MOST_PEOPLE];
        final int[] longing = new int[MOST_PEOPLE];
        final int[] flowers = new int[MOST_PEOPLE];
        int denied = 0;
        int bears = BORNE_WITHOUT;
        int sunday = 0;
        int crossed = 0;

        void startFrom(Shore shore) {
            System.arraycopy(shore.hasFirst, 0, has, 0, MOST_PEOPLE);
            System.arraycopy(shore.missedFirst, 0, missed, 0, MOST_PEOPLE);
            System.arraycopy(shore.longingFirst, 0, longing, 0, MOST_PEOPLE);
            Arrays.fill(flowers, 0);
            denied = 0;
            bears = shore.bears;
            sunday = 0;
            crossed = 0;
        }

        void copyFrom(State other) {
            System.arraycopy(other.has, 0, has, 0, MOST_PEOPLE);
            System.arraycopy(other.missed, 0, missed, 0, MOST_PEOPLE);
            System.arraycopy(other.longing, 0, longing, 0, MOST_PEOPLE);
            System.arraycopy(other.flowers, 0, flowers, 0, MOST_PEOPLE);
            denied = other.denied;
            bears = other.bears;
            sunday = other.sunday;
            crossed = other.crossed;
        }

        void writeTo(int[] rows, int at) {
            if (at < 0 || at > rows.length - ROW) {
                return;
            }
            System.arraycopy(has, 0, rows, at, MOST_PEOPLE);
            System.arraycopy(missed, 0, rows, at + MOST_PEOPLE, MOST_PEOPLE);
            System.arraycopy(longing, 0, rows, at + 2 * MOST_PEOPLE, MOST_PEOPLE);
            System.arraycopy(flowers, 0, rows, at + 3 * MOST_PEOPLE, MOST_PEOPLE);
            rows[at + ROW - 4] = denied;
            rows[at + ROW - 3] = bears;
            rows[at + ROW - 2] = sunday;
            rows[at + ROW - 1] = crossed;
        }

        void readFrom(int[] rows, int at) {
            if (at < 0 || at > rows.length - ROW) {
                return;
            }
            System.arraycopy(rows, at, has, 0, MOST_PEOPLE);
            System.arraycopy(rows, at + MOST_PEOPLE, missed, 0, MOST_PEOPLE);
            System.arraycopy(rows, at + 2 * MOST_PEOPLE, longing, 0, MOST_PEOPLE);
            System.arraycopy(rows, at + 3 * MOST_PEOPLE, flowers, 0, MOST_PEOPLE);
            denied = rows[at + ROW - 4];
            bears = rows[at + ROW - 3];
            sunday = rows[at + ROW - 2];
            crossed = rows[at + ROW - 1];
        }
    }

    /** The ACTS that are kept, each as the state ahead of it: that undoes any kind of them. */
    private static final class Acts {
        private final int[] rows = new int[MOST_ACTS * State.ROW];
        private int oldest = 0;
        int size = 0;

        void clear() {
            size = 0;
        }

        void keep(State ahead) {
            ahead.writeTo(rows, (oldest + size) % MOST_ACTS * State.ROW);
            if (size < MOST_ACTS) {
                size++;
            } else {
                oldest = (oldest + 1) % MOST_ACTS;
            }
        }

        boolean takeBack(State into) {
            if (size == 0) {
                return false;
            }
            size--;
            into.readFrom(rows, (oldest + size) % MOST_ACTS * State.ROW);
            return true;
        }

        void copyFrom(Acts other) {
            System.arraycopy(other.rows, 0, rows, 0, rows.length);
            oldest = other.oldest;
            size = other.size;
        }
    }

    /** What is SEEN of PEOPLE over there. */
    private static final class Seen {
        private final int[] people = new int[MOST_SEEN];
        private final int[] things = new int[MOST_SEEN];
        private int had = 0;
        int size = 0;

        void clear() {
            size = 0;
            had = 0;
        }

        boolean put(int person, int thing, boolean has) {
            if (size >= MOST_SEEN) {
                return false;
            }
            people[size] = person;
            things[size] = thing;
            had |= has ? 1 << size : 0;
            size++;
            return true;
        }

        boolean agrees(int person, int there) {
            for (int i = 0; i < size; i++) {
                if (people[i] == person && isIn(things[i], there) != isIn(i, had)) {
                    return false;
                }
            }
            return true;
        }

        void copyFrom(Seen other) {
            System.arraycopy(other.people, 0, people, 0, MOST_SEEN);
            System.arraycopy(other.things, 0, things, 0, MOST_SEEN);
            had = other.had;
            size = other.size;
        }
    }

    /** AN IMAGE, if it is there. */
    private static final class Image {
        final State state = new State();
        final Acts acts = new Acts();
        final Seen seen = new Seen();
        final int[] status = new int[STATUSES];
        boolean there = false;
    }

    /** SUNDAYS that go by on a state of its own, so that they can be asked of beforehand. */
    private static final class Walk {
        final State state = new State();
        final int[] there = new int[MOST_PEOPLE];
        private final int[] worthHere = new int[MOST_PEOPLE];
        private final int[] worthThere = new int[MOST_PEOPLE];
        private final int[] worthSpared = new int[MOST_PEOPLE];
        private final int[] values = new int[Rule.VALUES];
        private Shore shore;
        private int wanting = 0;

        Walk(Shore first) {
            shore = first;
        }

        void begin(Shore on, State from) {
            shore = on;
            wanting = 0;
            state.copyFrom(from);
            for (int person = 0; person < shore.people; person++) {
                settle(person);
            }
        }

        /** What the banks hold for one changes by ACTS alone: it is reckoned once for many SUNDAYS. */
        private void settle(int person) {
            there[person] = shore.thereOf(state, person);
            worthHere[person] = shore.worthOf(state.has[person]);
            worthThere[person] = shore.worthOf(there[person]);
            worthSpared[person] = shore.worthOf(shore.sparedBankOf(state, person));
        }

        /** One GETS a THING (kind 0), LOSES it (1), or it is MISSED (2). */
        void change(int kind, int person, int thing) {
            if (kind == 0) {
                state.has[person] |= 1 << thing;
            } else if (kind == 1) {
                state.has[person] &= ~(1 << thing);
            } else {
                state.missed[person] = thing;
            }
            settle(person);
        }

        int gainOf(int person) {
            return worthThere[person] - worthHere[person];
        }

        int thereOfAll(int people) {
            int all = 0;
            for (int person = 0; person < shore.people; person++) {
                if (isIn(person, people)) {
                    all |= there[person];
                }
            }
            return all;
        }

        void step() {
            wanting = whoWants();
            state.crossed = whoGoes();
            for (int person = 0; person < shore.people; person++) {
                if (isIn(person, state.crossed)) {
                    cross(person);
                } else {
                    stay(person);
                }
            }
            state.sunday++;
        }

        /** Who wanted to cross on the latest SUNDAY, but wasn't borne. */
        int leftBehind() {
            return wanting & ~state.crossed;
        }

        private int whoWants() {
            int who = 0;
            for (int person = 0; person < shore.people; person++) {
                if (wants(person)) {
                    who |= 1 << person;
                }
            }
            return who;
        }

        boolean wants(int person) {
            if (!shore.rule.isTold()) {
                return state.longing[person] >= LONGING_TO_CROSS;
            }
            values[Rule.LONGING - Rule.LONGING] = state.longing[person];
            values[Rule.HERE - Rule.LONGING] = worthHere[person];
            values[Rule.THERE - Rule.LONGING] = worthThere[person];
            values[Rule.SPARED - Rule.LONGING] = worthSpared[person];
            values[Rule.SUNDAY - Rule.LONGING] = state.sunday;
            values[Rule.FLOWERS - Rule.LONGING] = state.flowers[person];
            values[Rule.LAST - Rule.LONGING] = isIn(person, state.crossed) ? 1 : 0;
            return shore.rule.reckon(values) > 0;
        }

        private int whoGoes() {
            int left = wanting;
            for (int i = 0; i < state.bears && left != 0; i++) {
                left &= ~(1 << mostLonging(left));
            }
            return wanting & ~left;
        }

        private int mostLonging(int among) {
            int best = NONE;
            for (int person = 0; person < shore.people; person++) {
                if (isIn(person, among)
                        && (best == NONE || state.longing[person] > state.longing[best])) {
                    best = person;
                }
            }
            return best;
        }

        private void cross(int person) {
            int gain = Math.max(gainOf(person), 0);
            state.longing[person] = Math.max(state.longing[person] - gain, 0);
            if (lackOf(person) > 0) {
                state.flowers[person] = Math.min(state.flowers[person] + 1, MOST_FLOWERS);
            }
        }

        private void stay(int person) {
            int longing = state.longing[person] + lackOf(person) + 1;
            state.longing[person] = Math.min(longing, MOST_LONGING);
        }

        private int lackOf(int person) {
            return Integer.bitCount(there[person] & ~state.has[person]);
        }
    }
}
