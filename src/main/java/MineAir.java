import java.util.Arrays;
import java.util.NoSuchElementException;

/** The air of a mine: see the document for every word in capitals. */
public final class MineAir {
    public static final int NONE = -1;

    private static final int NOT_SO = -2;
    private static final int NO_NUMBER = -2147483648;
    private static final int NO_AIR = -100;
    private static final int NEVER = 2147483647;

    private static final int MOST_BYTES = 600;
    private static final int MOST_WAYS = 14;
    private static final int MOST_KNOTS = 10;
    private static final int MOST_DOORS = 6;
    private static final int MOST_PAIRS = 3;
    private static final int MOST_FANS = 4;
    private static final int MOST_FACES = 4;
    private static final int MOST_NAMES = MOST_WAYS + MOST_DOORS + MOST_FANS + MOST_FACES;
    private static final int MOST_MEN = 20;
    private static final int MOST_CHANGES = 5;
    private static final int MOST_READINGS = 8;

    private static final int MOST_AIR = 60;
    private static final int MOST_SPEED = 3;
    private static final int MOST_PUSH = 5000;
    private static final int MOST_MARK = 999;
    private static final int FIRST_MARK = 10;
    private static final int MOST_MORE = 9999;

    private static final int NO_SUCH = 1;
    private static final int BAD_NUMBER = 2;
    private static final int NO_ROOM = 3;
    private static final int FAULTY = 4;
    private static final int NOT_THUS = 5;
    private static final int NO_WAY = 6;

    private final Reader reader;
    private final Book draft;
    private final Book book;
    private final State state;
    private final Judge now;
    private final Trials trials;
    private final Plan plan;
    private final Flight flight;
    private final Readings readings;
    private int trouble;
    private int fault;
    private int place;

    public MineAir() {
        draft = new Book();
        book = new Book();
        reader = new Reader(draft);
        state = new State(book);
        now = new Judge(book, state);
        Judge trial = new Judge(book, state);
        trials = new Trials(book, state, now, trial);
        plan = new Plan(state, now, trial);
        flight = new Flight(book, state);
        readings = new Readings();
        state.reset();
    }

    // ---- the book

    public int feed(int a, int b, int c, int d, int e) {
        if (reader.fed + 20 > MOST_BYTES) return NONE;
        reader.append(a);
        reader.append(b);
        reader.append(c);
        reader.append(d);
        reader.append(e);
        return reader.fed;
    }

    public int book(int n) {
        if (n < 0 || n > reader.fed) return refuse(BAD_NUMBER);
        boolean read = reader.readBook(n);
        fault = reader.fault;
        place = reader.faultPlace;
        if (!read) return refuse(FAULTY);
        book.copy(draft);
        state.reset();
        now.restart();
        flight.men = 0;
        plan.count = 0;
        readings.count = 0;
        forgetAir();
        return accept(book.ways);
    }

    public int fault() {
        return fault;
    }

    public int where() {
        return trouble == FAULTY ? place : NONE;
    }

    public int way(int w, int what) {
        if (!isWay(w)) return NO_NUMBER;
        switch (what) {
            case 0: return book.tail[w];
            case 1: return book.head[w];
            case 2: return state.hindrance(w);
            case 3: return book.size[w];
            case 4: return book.walk[w];
            case 5: return book.draught[w];
            case 6: return orNotSo(book.doorIn[w]);
            case 7: return orNotSo(book.fanIn[w]);
            case 8: return orNotSo(book.faceIn[w]);
            case 9: return state.fallen[w] ? 1 : 0;
            case 10: return state.fire[w];
            default: return NO_NUMBER;
        }
    }

    // ---- state

    public boolean door(int d, boolean open) {
        if (!isDoor(d)) return deny(NO_SUCH);
        if (state.open[d] == open) return deny(NOT_THUS);
        state.open[d] = open;
        forgetAir();
        return allow();
    }

    public boolean speed(int f, int s) {
        if (!isFan(f)) return deny(NO_SUCH);
        if (!isSpeed(s)) return deny(BAD_NUMBER);
        if (state.speed[f] != s) {
            state.speed[f] = s;
            forgetAir();
        }
        return allow();
    }

    public boolean fall(int w, boolean fallen) {
        if (!isWay(w)) return deny(NO_SUCH);
        if (state.fallen[w] == fallen) return deny(NOT_THUS);
        state.fallen[w] = fallen;
        forgetAir();
        return allow();
    }

    public boolean fire(int w, int push) {
        if (!isWay(w)) return deny(NO_SUCH);
        if (push < -MOST_PUSH || push > MOST_PUSH) return deny(BAD_NUMBER);
        if (state.fire[w] != push) {
            state.fire[w] = push;
            forgetAir();
        }
        return allow();
    }

    public boolean mark(int m) {
        if (m < 1 || m > MOST_MARK) return deny(BAD_NUMBER);
        state.mark = m;
        forgetVerdicts();
        return allow();
    }

    // ---- air and gas

    public int air(int w) {
        if (!isWay(w)) return NO_AIR;
        now.settle();
        return now.flow.air[w];
    }

    public long cost() {
        if (!isBooked()) return 0;
        now.settle();
        return now.flow.totalCost();
    }

    public int turned(int f) {
        if (!isFan(f)) return refuse(NO_SUCH);
        return accept(trials.countTurned(f));
    }

    public int gas(int w) {
        if (!isWay(w)) return refuse(NO_SUCH);
        now.carry();
        if (now.load.ringed) return refuse(NOT_THUS);
        return accept(now.load.gas[w]);
    }

    public int thick(int w) {
        if (!isWay(w)) return refuse(NO_SUCH);
        now.carry();
        if (now.load.ringed) return refuse(NOT_THUS);
        return accept(now.thickness(w));
    }

    public int over() {
        if (!isBooked()) return refuse(NO_SUCH);
        now.carry();
        if (now.load.ringed) return refuse(NOT_THUS);
        return accept(now.countOver());
    }

    public int sound() {
        if (!isBooked()) return refuse(NO_SUCH);
        now.carry();
        return accept(now.verdict());
    }

    // ---- what may fail, what it costs

    public int failing(boolean ways) {
        if (!isBooked()) return refuse(NO_SUCH);
        return accept(ways ? trials.failingWays() : trials.failingFans());
    }

    public int setting() {
        if (!isBooked()) return refuse(NO_SUCH);
        int cheapest = trials.cheapestSetting();
        return cheapest == NONE ? refuse(NO_WAY) : accept(cheapest);
    }

    // ---- fire, smoke, men

    public int smoke(int w) {
        if (!isWay(w)) return refuse(NO_SUCH);
        if (flight.source() == NONE) return refuse(NOT_THUS);
        now.settle();
        flight.spread(now.flow.air);
        int minute = flight.smokeAt[w];
        return accept(minute == NEVER ? NOT_SO : minute);
    }

    public int man(int knot) {
        if (knot < 0 || knot >= book.knots) return refuse(NO_SUCH);
        if (flight.men >= MOST_MEN) return refuse(NO_ROOM);
        flight.knotOf[flight.men] = knot;
        flight.men++;
        return accept(flight.men - 1);
    }

    public int out(int man) {
        if (!isMan(man)) return refuse(NO_SUCH);
        if (flight.source() == NONE) return refuse(NOT_THUS);
        return accept(leastMinuteOut(man));
    }

    // ---- changes, readings

    public int change(int kind, int which, int value) {
        if (!isTarget(kind, which)) return refuse(NO_SUCH);
        if (kind == Plan.FAN ? !isSpeed(value) : value < 0 || value > 1) return refuse(BAD_NUMBER);
        if (plan.count >= MOST_CHANGES) return refuse(NO_ROOM);
        return accept(plan.add(kind, which, value));
    }

    public int order(int i) {
        if (i < 0 || i >= plan.count) return refuse(NO_SUCH);
        return accept(plan.seek() ? plan.order[i] : NOT_SO);
    }

    public int make() {
        int count = plan.count;
        if (count == 0) return refuse(NOT_THUS);
        if (!plan.seek()) return refuse(NO_WAY);
        plan.carryOut();
        forgetAir();
        return accept(count);
    }

    public int reading(int w, int low, int high) {
        if (!isWay(w)) return refuse(NO_SUCH);
        if (low > high) return refuse(BAD_NUMBER);
        if (readings.count >= MOST_READINGS) return refuse(NO_ROOM);
        readings.add(w, low, high);
        return accept(readings.count);
    }

    public int fits(int more) {
        if (!isBooked()) return refuse(NO_SUCH);
        if (more < 0 || more > MOST_MORE) return refuse(BAD_NUMBER);
        if (readings.count == 0) return refuse(NOT_THUS);
        return accept(trials.fittingWays(more, readings));
    }

    public int led(int man, int i) throws NoSuchElementException {
        if (!isMan(man) || i < 0 || flight.source() == NONE) throw new NoSuchElementException();
        if (leastMinuteOut(man) == NOT_SO) throw new NoSuchElementException();
        int steps = flight.traceBack(flight.knotOf[man]);
        if (i > steps) throw new NoSuchElementException();
        return flight.route[steps - i];
    }

    public int count(int what) {
        switch (what) {
            case 0: return book.ways;
            case 1: return book.knots;
            case 2: return book.gear.doors;
            case 3: return book.gear.pairs;
            case 4: return book.gear.fans;
            case 5: return book.gear.faces;
            case 6: return flight.men;
            case 7: return plan.count;
            case 8: return readings.count;
            case 9: return orNotSo(book.day);
            case 10: return reader.fed;
            default: return NONE;
        }
    }

    public int trouble() {
        return trouble;
    }

    // ---- what the calls share

    private int refuse(int why) {
        trouble = why;
        return NONE;
    }

    private int accept(int answer) {
        trouble = 0;
        return answer;
    }

    private boolean deny(int why) {
        trouble = why;
        return false;
    }

    private boolean allow() {
        trouble = 0;
        return true;
    }

    private void forgetAir() {
        now.forget();
        forgetVerdicts();
    }

    private void forgetVerdicts() {
        trials.settingKnown = false;
        plan.forget();
    }

    private int leastMinuteOut(int man) {
        if (book.day == NONE) return NOT_SO;
        now.settle();
        flight.spread(now.flow.air);
        flight.walkFrom(flight.knotOf[man]);
        int minute = flight.reach[book.day];
        return minute == NEVER ? NOT_SO : minute;
    }

    // Every BOOK has a WAY, so one without is no BOOK.
    private boolean isBooked() {
        return book.ways > 0;
    }

    private boolean isWay(int w) {
        return w >= 0 && w < book.ways;
    }

    private boolean isDoor(int d) {
        return d >= 0 && d < book.gear.doors;
    }

    private boolean isFan(int f) {
        return f >= 0 && f < book.gear.fans;
    }

    private boolean isMan(int man) {
        return man >= 0 && man < flight.men;
    }

    private boolean isTarget(int kind, int which) {
        switch (kind) {
            case Plan.DOOR: return isDoor(which);
            case Plan.FAN: return isFan(which);
            case Plan.WAY: return isWay(which);
            default: return false;
        }
    }

    private static boolean isSpeed(int s) {
        return s >= -MOST_SPEED && s <= MOST_SPEED;
    }

    private static int orNotSo(int number) {
        return number == NONE ? NOT_SO : number;
    }

    /** WAYS and KNOTS of a BOOK; what stands in the WAYS is its gear. */
    private static final class Book {
        int ways;
        final int[] tail = new int[MOST_WAYS];
        final int[] head = new int[MOST_WAYS];
        final int[] hinder = new int[MOST_WAYS];
        final int[] size = new int[MOST_WAYS];
        final int[] walk = new int[MOST_WAYS];
        final int[] draught = new int[MOST_WAYS];
        final int[] doorIn = new int[MOST_WAYS];
        final int[] fanIn = new int[MOST_WAYS];
        final int[] faceIn = new int[MOST_WAYS];
        int knots;
        int day = NONE;
        final Gear gear = new Gear();

        void clear() {
            ways = 0;
            knots = 0;
            day = NONE;
            gear.doors = 0;
            gear.pairs = 0;
            gear.fans = 0;
            gear.faces = 0;
            Arrays.fill(doorIn, NONE);
            Arrays.fill(fanIn, NONE);
            Arrays.fill(faceIn, NONE);
        }

        void copy(Book other) {
            ways = other.ways;
            System.arraycopy(other.tail, 0, tail, 0, MOST_WAYS);
            System.arraycopy(other.head, 0, head, 0, MOST_WAYS);
            System.arraycopy(other.hinder, 0, hinder, 0, MOST_WAYS);
            System.arraycopy(other.size, 0, size, 0, MOST_WAYS);
            System.arraycopy(other.walk, 0, walk, 0, MOST_WAYS);
            System.arraycopy(other.draught, 0, draught, 0, MOST_WAYS);
            System.arraycopy(other.doorIn, 0, doorIn, 0, MOST_WAYS);
            System.arraycopy(other.fanIn, 0, fanIn, 0, MOST_WAYS);
            System.arraycopy(other.faceIn, 0, faceIn, 0, MOST_WAYS);
            knots = other.knots;
            day = other.day;
            gear.copy(other.gear);
        }

        int startOf(int w, int air) {
            return air > 0 ? tail[w] : head[w];
        }

        int endOf(int w, int air) {
            return air > 0 ? head[w] : tail[w];
        }

        int faceGasIn(int w) {
            int face = faceIn[w];
            return face == NONE ? 0 : gear.faceGas[face];
        }
    }

    /** DOORS, PAIRS, FANS and FACES of a BOOK. */
    private static final class Gear {
        int doors;
        final int[] doorBy = new int[MOST_DOORS];
        int pairs;
        final int[] pairFirst = new int[MOST_PAIRS];
        final int[] pairSecond = new int[MOST_PAIRS];
        int fans;
        final int[] fanPush = new int[MOST_FANS];
        final int[] fanFall = new int[MOST_FANS];
        final int[] fanCost = new int[MOST_FANS];
        int faces;
        final int[] faceWay = new int[MOST_FACES];
        final int[] faceGas = new int[MOST_FACES];
        final int[] faceNeed = new int[MOST_FACES];

        void copy(Gear other) {
            doors = other.doors;
            System.arraycopy(other.doorBy, 0, doorBy, 0, MOST_DOORS);
            pairs = other.pairs;
            System.arraycopy(other.pairFirst, 0, pairFirst, 0, MOST_PAIRS);
            System.arraycopy(other.pairSecond, 0, pairSecond, 0, MOST_PAIRS);
            fans = other.fans;
            System.arraycopy(other.fanPush, 0, fanPush, 0, MOST_FANS);
            System.arraycopy(other.fanFall, 0, fanFall, 0, MOST_FANS);
            System.arraycopy(other.fanCost, 0, fanCost, 0, MOST_FANS);
            faces = other.faces;
            System.arraycopy(other.faceWay, 0, faceWay, 0, MOST_FACES);
            System.arraycopy(other.faceGas, 0, faceGas, 0, MOST_FACES);
            System.arraycopy(other.faceNeed, 0, faceNeed, 0, MOST_FACES);
        }
    }

    /** THE TAPE, and the reading of its TEXT into a BOOK up to the first FAULT. */
    private static final class Reader {
        private static final int END = 0;
        private static final int WORD = 1;
        private static final int WHOLE = 2;
        private static final int BREAK = 3;
        private static final int DASH = 4;
        private static final int BAD = 5;

        private static final int FORM = 1;
        private static final int UNTOLD = 2;
        private static final int AGAIN = 3;
        private static final int BOUNDS = 4;
        private static final int MANY = 5;

        private static final int OF_WAY = 0;
        private static final int OF_DOOR = 1;
        private static final int OF_FAN = 2;
        private static final int OF_FACE = 3;

        // Eight letters go into one long.
        private static final int LETTER_BITS = 5;
        private static final int LONGEST_WORD = 8;
        private static final int LONGEST_WHOLE = 4;

        final int[] tape = new int[MOST_BYTES];
        int fed;
        int fault;
        int faultPlace;
        private final Book draft;
        private final long[] names = new long[MOST_NAMES];
        private final int[] nameKind = new int[MOST_NAMES];
        private final int[] nameNumber = new int[MOST_NAMES];
        private int named;
        private final long[] knotNames = new long[MOST_KNOTS];
        private int end;
        private int at;
        private int token;
        private int tokenStart;
        private long tokenValue;

        Reader(Book draft) {
            this.draft = draft;
        }

        void append(int four) {
            for (int shift = 24; shift >= 0; shift -= 8) {
                if (fed < MOST_BYTES) {
                    tape[fed] = four >> shift & 255;
                    fed++;
                }
            }
        }

        boolean readBook(int n) {
            end = n < fed ? n : fed;
            fed = 0;
            at = 0;
            named = 0;
            fault = 0;
            faultPlace = NONE;
            draft.clear();
            next();
            for (int line = 0; line <= MOST_BYTES; line++) {
                if (takeWord("way")) readWay();
                else if (takeWord("door")) readDoor();
                else if (takeWord("pair")) readPair();
                else if (takeWord("fan")) readFan();
                else if (takeWord("face")) readFace();
                else miss(FORM);
                if (fault != 0) return false;
                if (token == END) return true;
                if (token != BREAK) return miss(FORM);
                next();
            }
            return miss(FORM);
        }

        // The take methods do nothing once a FAULT is met, so that the first one stays.

        private void readWay() {
            int w = takeNewName(OF_WAY, draft.ways, MOST_WAYS);
            int tail = takeKnot(NONE);
            int head = takeKnot(tail);
            int hinder = takeWhole("hinder", 1, 99);
            int size = takeWhole("size", 1, 999);
            int walk = takeWhole("walk", 1, 99);
            int draught = takeDraught();
            if (fault != 0) return;
            draft.tail[w] = tail;
            draft.head[w] = head;
            draft.hinder[w] = hinder;
            draft.size[w] = size;
            draft.walk[w] = walk;
            draft.draught[w] = draught;
            draft.ways++;
        }

        private void readDoor() {
            Gear gear = draft.gear;
            int d = takeNewName(OF_DOOR, gear.doors, MOST_DOORS);
            int w = takePlace(draft.doorIn);
            int by = takeWhole("by", 1, 99);
            if (fault != 0) return;
            draft.doorIn[w] = d;
            gear.doorBy[d] = by;
            gear.doors++;
        }

        private void readPair() {
            Gear gear = draft.gear;
            int p = gear.pairs;
            int first = findTold(OF_DOOR);
            if (p >= MOST_PAIRS) miss(MANY);
            if (fault != 0) return;
            next();
            int second = findTold(OF_DOOR);
            if (second == first) miss(AGAIN);
            if (fault != 0) return;
            next();
            gear.pairFirst[p] = first;
            gear.pairSecond[p] = second;
            gear.pairs++;
        }

        private void readFan() {
            Gear gear = draft.gear;
            int f = takeNewName(OF_FAN, gear.fans, MOST_FANS);
            int w = takePlace(draft.fanIn);
            int push = takeWhole("push", 1, 999);
            int fall = takeWhole("fall", 0, 99);
            int cost = takeWhole("cost", 1, 99);
            if (fault != 0) return;
            draft.fanIn[w] = f;
            gear.fanPush[f] = push;
            gear.fanFall[f] = fall;
            gear.fanCost[f] = cost;
            gear.fans++;
        }

        private void readFace() {
            Gear gear = draft.gear;
            int f = takeNewName(OF_FACE, gear.faces, MOST_FACES);
            int w = takePlace(draft.faceIn);
            int gas = takeWhole("gas", 0, 999);
            int need = takeWhole("need", 0, 60);
            if (fault != 0) return;
            draft.faceIn[w] = f;
            gear.faceWay[f] = w;
            gear.faceGas[f] = gas;
            gear.faceNeed[f] = need;
            gear.faces++;
        }

        private int takeNewName(int kind, int number, int room) {
            if (fault != 0) return 0;
            if (!isName()) miss(FORM);
            else if (nameIndex() != NONE) miss(AGAIN);
            else if (number >= room || named >= MOST_NAMES) miss(MANY);
            if (fault != 0) return 0;
            names[named] = tokenValue;
            nameKind[named] = kind;
            nameNumber[named] = number;
            named++;
            next();
            return number;
        }

        private int takeKnot(int other) {
            if (fault != 0) return 0;
            if (!isName()) {
                miss(FORM);
                return 0;
            }
            int k = knotNumber();
            if (k == NONE) k = addKnot();
            else if (k == other) miss(AGAIN);
            if (fault == 0) next();
            return k;
        }

        private int addKnot() {
            int k = draft.knots;
            if (k >= MOST_KNOTS) {
                miss(MANY);
                return 0;
            }
            knotNames[k] = tokenValue;
            if (isWord("day")) draft.day = k;
            draft.knots++;
            return k;
        }

        /** The WAY behind "in", in which nothing of the kind stands yet. */
        private int takePlace(int[] standing) {
            if (fault != 0) return 0;
            if (!takeWord("in")) {
                miss(FORM);
                return 0;
            }
            int w = findTold(OF_WAY);
            if (fault == 0 && standing[w] != NONE) miss(AGAIN);
            if (fault == 0) next();
            return w;
        }

        private int findTold(int kind) {
            if (fault != 0) return 0;
            if (!isName()) {
                miss(FORM);
                return 0;
            }
            int i = nameIndex();
            if (i == NONE || nameKind[i] != kind) {
                miss(UNTOLD);
                return 0;
            }
            return nameNumber[i];
        }

        private int takeWhole(String lead, int least, int most) {
            if (fault != 0) return 0;
            if (!takeWord(lead) || token != WHOLE) {
                miss(FORM);
                return 0;
            }
            int whole = (int) tokenValue;
            if (whole < least || whole > most) miss(BOUNDS);
            else next();
            return whole;
        }

        private int takeDraught() {
            if (fault != 0 || !isWord("draught")) return 0;
            next();
            boolean against = token == DASH;
            if (against) next();
            if (token != WHOLE) {
                miss(FORM);
                return 0;
            }
            int whole = (int) tokenValue;
            if (whole > MOST_PUSH) miss(BOUNDS);
            else next();
            return against ? -whole : whole;
        }

        private boolean takeWord(String word) {
            if (!isWord(word)) return false;
            next();
            return true;
        }

        private boolean isWord(String word) {
            return token == WORD && tokenValue == codeOf(word);
        }

        private boolean isName() {
            return token == WORD && !isWord("way") && !isWord("door") && !isWord("pair")
                    && !isWord("fan") && !isWord("face");
        }

        private int nameIndex() {
            for (int i = 0; i < named; i++) {
                if (names[i] == tokenValue) return i;
            }
            return NONE;
        }

        private int knotNumber() {
            for (int k = 0; k < draft.knots; k++) {
                if (knotNames[k] == tokenValue) return k;
            }
            return NONE;
        }

        private boolean miss(int number) {
            if (fault == 0) {
                fault = number;
                faultPlace = tokenStart;
            }
            return false;
        }

        private void next() {
            for (int i = at; i < end && tape[i] == ' '; i++) at = i + 1;
            tokenStart = at;
            tokenValue = 0;
            if (at >= end) {
                token = END;
            } else if (isLetter(tape[at])) {
                readWord();
            } else if (isDigit(tape[at])) {
                readDigits();
            } else {
                token = tape[at] == ';' ? BREAK : tape[at] == '-' ? DASH : BAD;
                at++;
            }
        }

        private void readWord() {
            for (int i = at; i < end && isLetter(tape[i]); i++) {
                tokenValue = tokenValue << LETTER_BITS | tape[i] - 'a' + 1;
                at = i + 1;
            }
            token = at - tokenStart > LONGEST_WORD ? BAD : WORD;
        }

        private void readDigits() {
            for (int i = at; i < end && isDigit(tape[i]); i++) {
                tokenValue = tokenValue * 10 + tape[i] - '0';
                at = i + 1;
            }
            token = at - tokenStart > LONGEST_WHOLE ? BAD : WHOLE;
        }

        private static boolean isLetter(int sign) {
            return sign >= 'a' && sign <= 'z';
        }

        private static boolean isDigit(int sign) {
            return sign >= '0' && sign <= '9';
        }

        /** A WORD as one number, as readWord makes it. */
        private static long codeOf(String word) {
            long code = 0;
            for (int i = 0; i < word.length(); i++) code = code << LETTER_BITS | word.charAt(i) - 'a' + 1;
            return code;
        }
    }

    /** STATE of the BOOK's things. */
    private static final class State {
        final boolean[] open = new boolean[MOST_DOORS];
        final int[] speed = new int[MOST_FANS];
        final boolean[] fallen = new boolean[MOST_WAYS];
        final int[] fire = new int[MOST_WAYS];
        int mark;
        // For READINGS: one WAY may be tried with more HINDRANCE.
        int moreIn;
        int more;
        private final Book book;

        State(Book book) {
            this.book = book;
        }

        void reset() {
            for (int d = 0; d < MOST_DOORS; d++) open[d] = false;
            for (int w = 0; w < MOST_WAYS; w++) fallen[w] = false;
            Arrays.fill(speed, 1);
            Arrays.fill(fire, 0);
            mark = FIRST_MARK;
            moreIn = NONE;
            more = 0;
        }

        int hindrance(int w) {
            int door = book.doorIn[w];
            int shut = door == NONE || open[door] ? 0 : book.gear.doorBy[door];
            int tried = w == moreIn ? more : 0;
            return book.hinder[w] + shut + tried;
        }

        /** What each STEP in the WAY costs less, whatever its AIR. */
        int pull(int w) {
            int fan = book.fanIn[w];
            int blown = fan == NONE ? 0 : book.gear.fanPush[fan] * speed[fan];
            return book.draught[w] + fire[w] + blown;
        }

        boolean hasOpenPair() {
            Gear gear = book.gear;
            for (int p = 0; p < gear.pairs; p++) {
                if (open[gear.pairFirst[p]] && open[gear.pairSecond[p]]) return true;
            }
            return false;
        }

        /** A FACE that can't be SOUND, whatever the AIR of the other WAYS. */
        boolean hasFallenFace() {
            Gear gear = book.gear;
            for (int f = 0; f < gear.faces; f++) {
                boolean asks = gear.faceGas[f] > 0 || gear.faceNeed[f] > 0;
                if (asks && fallen[gear.faceWay[f]]) return true;
            }
            return false;
        }
    }

    /**
     * THE AIR of the STATE. Any AIR that obeys the KNOTS is bettered round by round: a round is a
     * closed walk along which a small change costs less than nothing. The COSTS are convex, so
     * where no round by single parts is left, none better is. The sum that decides among like
     * COSTS rides in the low bits; it is convex too, and no round has 0 of it.
     */
    private static final class Flow {
        private static final int TIE_BITS = 28;
        // More than all labels together, which are never above 0.
        private static final long BARRED = 1L << 62;
        private static final int WIDEST_STEP = 4;
        private static final int MOST_ROUNDS = 1000000;
        private static final int[] THREES = {
            1, 3, 9, 27, 81, 243, 729, 2187, 6561, 19683, 59049, 177147, 531441, 1594323
        };

        final int[] air = new int[MOST_WAYS];
        private final Book book;
        private final State state;
        private final long[] hindrance = new long[MOST_WAYS];
        private final long[] pull = new long[MOST_WAYS];
        private final long[] droop = new long[MOST_WAYS];
        private final long[] forth = new long[MOST_WAYS];
        private final long[] back = new long[MOST_WAYS];
        private final long[] label = new long[MOST_KNOTS];
        // The step that last bettered a KNOT's label: twice its WAY, one more if it goes back.
        private final int[] cause = new int[MOST_KNOTS];
        private final int[] seen = new int[MOST_KNOTS];
        private final int[] round = new int[MOST_KNOTS];

        Flow(Book book, State state) {
            this.book = book;
            this.state = state;
        }

        void clear() {
            Arrays.fill(air, 0);
        }

        void settle() {
            takeState();
            for (int step = WIDEST_STEP; step > 0; step /= 2) {
                for (int w = 0; w < book.ways; w++) rate(w, step);
                for (int i = 0; i < MOST_ROUNDS; i++) {
                    int knot = findRound();
                    if (knot == NONE) break;
                    followRound(knot, step);
                }
            }
        }

        /** COST of the AIR that settle() found. */
        long totalCost() {
            long sum = 0;
            for (int w = 0; w < book.ways; w++) sum += rankOf(w, air[w]) >> TIE_BITS;
            return sum;
        }

        private void takeState() {
            boolean cut = false;
            for (int w = 0; w < book.ways; w++) {
                int fan = book.fanIn[w];
                hindrance[w] = state.hindrance(w);
                pull[w] = state.pull(w);
                droop[w] = fan == NONE ? 0 : book.gear.fanFall[fan];
                if (state.fallen[w] && air[w] != 0) cut = true;
            }
            if (cut) clear();
        }

        /** COST of all STEPS from 0 to q in the high bits, the sum that decides in the low ones. */
        private long rankOf(int w, int q) {
            long n = q < 0 ? -q : q;
            long squares = n * (n + 1) * (2 * n + 1) / 6;
            long wholes = (long) q * (q + 1) / 2;
            long cost = hindrance[w] * squares - pull[w] * q + droop[w] * wholes;
            return (cost << TIE_BITS) + THREES[w] * n;
        }

        private void rate(int w, int step) {
            int q = air[w];
            if (state.fallen[w]) {
                forth[w] = BARRED;
                back[w] = BARRED;
                return;
            }
            long here = rankOf(w, q);
            forth[w] = q + step > MOST_AIR ? BARRED : rankOf(w, q + step) - here;
            back[w] = q - step < -MOST_AIR ? BARRED : rankOf(w, q - step) - here;
        }

        /** A KNOT on a round that gains, NONE if there is no such round. */
        private int findRound() {
            Arrays.fill(label, 0);
            Arrays.fill(cause, NONE);
            for (int pass = 0; pass <= book.knots; pass++) {
                if (!relax()) return NONE;
                int knot = closedKnot();
                if (knot != NONE) return knot;
            }
            return NONE;
        }

        private boolean relax() {
            boolean moved = false;
            int ways = book.ways;
            for (int w = 0; w < ways; w++) {
                int tail = book.tail[w];
                int head = book.head[w];
                long there = label[tail] + forth[w];
                if (there < label[head]) {
                    label[head] = there;
                    cause[head] = 2 * w;
                    moved = true;
                }
                long here = label[head] + back[w];
                if (here < label[tail]) {
                    label[tail] = here;
                    cause[tail] = 2 * w + 1;
                    moved = true;
                }
            }
            return moved;
        }

        private int closedKnot() {
            Arrays.fill(seen, NONE);
            for (int k = 0; k < book.knots; k++) {
                int knot = k;
                for (int i = 0; i <= book.knots; i++) {
                    if (seen[knot] == k) return knot;
                    if (seen[knot] != NONE || cause[knot] == NONE) break;
                    seen[knot] = k;
                    knot = cameFrom(cause[knot]);
                }
            }
            return NONE;
        }

        private int cameFrom(int step) {
            return step % 2 == 0 ? book.tail[step / 2] : book.head[step / 2];
        }

        private void followRound(int knot, int step) {
            int length = 0;
            int at = knot;
            for (int i = 0; i < book.knots; i++) {
                round[i] = cause[at];
                length = i + 1;
                at = cameFrom(cause[at]);
                if (at == knot) break;
            }
            for (int i = 0; i <= 2 * MOST_AIR; i++) {
                if (!gains(length)) return;
                for (int j = 0; j < length; j++) {
                    int w = round[j] / 2;
                    air[w] += round[j] % 2 == 0 ? step : -step;
                    rate(w, step);
                }
            }
        }

        private boolean gains(int length) {
            long sum = 0;
            for (int j = 0; j < length; j++) {
                int w = round[j] / 2;
                long part = round[j] % 2 == 0 ? forth[w] : back[w];
                if (part == BARRED) return false;
                sum += part;
            }
            return sum < 0;
        }
    }

    /** GAS of each WAY under an AIR. */
    private static final class Load {
        final int[] gas = new int[MOST_WAYS];
        boolean ringed;
        private final Book book;
        private final int[] coming = new int[MOST_KNOTS];
        private final int[] waiting = new int[MOST_KNOTS];
        private final int[] rest = new int[MOST_WAYS];

        Load(Book book) {
            this.book = book;
        }

        void carry(int[] air) {
            countArrivals(air);
            boolean going = true;
            for (int pass = 0; pass <= book.knots && going; pass++) {
                going = false;
                for (int k = 0; k < book.knots; k++) {
                    if (waiting[k] != 0) continue;
                    waiting[k] = NONE;
                    sendOn(k, air);
                    going = true;
                }
            }
            ringed = false;
            for (int k = 0; k < book.knots; k++) {
                if (waiting[k] != NONE) ringed = true;
            }
        }

        // Day waits for nothing: what comes there is gone.
        private void countArrivals(int[] air) {
            Arrays.fill(coming, 0);
            Arrays.fill(waiting, 0);
            for (int w = 0; w < book.ways; w++) {
                gas[w] = book.faceGasIn(w);
                if (air[w] == 0) continue;
                int end = book.endOf(w, air[w]);
                if (end != book.day) waiting[end]++;
            }
        }

        private void sendOn(int knot, int[] air) {
            int away = 0;
            for (int w = 0; w < book.ways; w++) {
                rest[w] = NONE;
                if (air[w] != 0 && book.startOf(w, air[w]) == knot) {
                    rest[w] = 0;
                    away += Math.abs(air[w]);
                }
            }
            if (away == 0) return;
            share(knot, air, away);
            for (int w = 0; w < book.ways; w++) {
                if (air[w] == 0 || book.startOf(w, air[w]) != knot) continue;
                int end = book.endOf(w, air[w]);
                if (end == book.day) continue;
                coming[end] += gas[w];
                waiting[end]--;
            }
        }

        private void share(int knot, int[] air, int away) {
            int whole = coming[knot];
            if (whole == 0 || away == 0) return;
            int left = whole;
            for (int w = 0; w < book.ways; w++) {
                if (rest[w] == NONE) continue;
                int part = whole * Math.abs(air[w]);
                gas[w] += part / away;
                left -= part / away;
                rest[w] = part % away;
            }
            for (int i = 0; i < MOST_WAYS && left > 0; i++) {
                int w = greatestRest();
                if (w == NONE) return;
                gas[w]++;
                rest[w] = NONE;
                left--;
            }
        }

        private int greatestRest() {
            int best = NONE;
            for (int w = 0; w < book.ways; w++) {
                if (rest[w] != NONE && (best == NONE || rest[w] > rest[best])) best = w;
            }
            return best;
        }
    }

    /** AIR, GAS and whether all is SOUND, of the STATE as it is when asked; kept until forgotten. */
    private static final class Judge {
        private static final int RING = 1;
        private static final int OVER = 2;
        private static final int NEEDY = 3;
        private static final int PAIR = 4;

        final Flow flow;
        final Load load;
        private final Book book;
        private final State state;
        private boolean settled;
        private boolean carried;

        Judge(Book book, State state) {
            this.book = book;
            this.state = state;
            flow = new Flow(book, state);
            load = new Load(book);
        }

        void forget() {
            settled = false;
            carried = false;
        }

        void restart() {
            flow.clear();
            forget();
        }

        /** From another's AIR on, which is near. */
        void startFrom(Judge other) {
            System.arraycopy(other.flow.air, 0, flow.air, 0, MOST_WAYS);
            forget();
        }

        void settle() {
            if (settled) return;
            flow.settle();
            settled = true;
        }

        /** Is to be called ahead of all that tells of GAS. */
        void carry() {
            settle();
            if (carried) return;
            load.carry(flow.air);
            carried = true;
        }

        int thickness(int w) {
            int air = Math.abs(flow.air[w]);
            if (air == 0) return load.gas[w] > 0 ? 1000 : 0;
            return 1000 * load.gas[w] / air;
        }

        int countOver() {
            int sum = 0;
            for (int w = 0; w < book.ways; w++) {
                if (thickness(w) > state.mark) sum++;
            }
            return sum;
        }

        int verdict() {
            if (load.ringed) return RING;
            if (countOver() > 0) return OVER;
            Gear gear = book.gear;
            for (int f = 0; f < gear.faces; f++) {
                if (Math.abs(flow.air[gear.faceWay[f]]) < gear.faceNeed[f]) return NEEDY;
            }
            return state.hasOpenPair() ? PAIR : 0;
        }

        /** Whether the STATE, changed since, is SOUND. */
        boolean isSoundAnew() {
            forget();
            if (state.hasOpenPair() || state.hasFallenFace()) return false;
            flow.settle();
            load.carry(flow.air);
            return verdict() == 0;
        }
    }

    /** What would be if the STATE were a little other; it is put back behind each trial. */
    private static final class Trials {
        private static final int SPEEDS = 4;
        private static final int MOST_SETTINGS = 256;
        private static final int[] GAPS = {121, 40, 13, 4, 1};

        boolean settingKnown;
        private int knownSetting;
        private final Book book;
        private final State state;
        private final Judge now;
        private final Judge trial;
        private final int[] ranks = new int[MOST_SETTINGS];
        private final int[] keptSpeed = new int[MOST_FANS];

        Trials(Book book, State state, Judge now, Judge trial) {
            this.book = book;
            this.state = state;
            this.now = now;
            this.trial = trial;
        }

        int countTurned(int f) {
            now.settle();
            trial.startFrom(now);
            state.speed[f] = -state.speed[f];
            trial.settle();
            state.speed[f] = -state.speed[f];
            int sum = 0;
            for (int w = 0; w < book.ways; w++) {
                if (now.flow.air[w] * trial.flow.air[w] < 0) sum++;
            }
            return sum;
        }

        int failingFans() {
            int bits = 0;
            for (int f = 0; f < book.gear.fans; f++) {
                int kept = state.speed[f];
                trial.startFrom(now);
                state.speed[f] = 0;
                if (!trial.isSoundAnew()) bits |= 1 << f;
                state.speed[f] = kept;
            }
            return bits;
        }

        int failingWays() {
            int bits = 0;
            for (int w = 0; w < book.ways; w++) {
                if (state.fallen[w]) continue;
                trial.startFrom(now);
                state.fallen[w] = true;
                if (!trial.isSoundAnew()) bits |= 1 << w;
                state.fallen[w] = false;
            }
            return bits;
        }

        int fittingWays(int more, Readings readings) {
            int bits = 0;
            state.more = more;
            for (int w = 0; w < book.ways; w++) {
                if (state.fallen[w]) continue;
                trial.startFrom(now);
                state.moreIn = w;
                trial.settle();
                if (readings.hold(trial.flow.air)) bits |= 1 << w;
            }
            state.moreIn = NONE;
            return bits;
        }

        int cheapestSetting() {
            if (!settingKnown) knownSetting = seekSetting();
            settingKnown = true;
            return knownSetting;
        }

        private int seekSetting() {
            System.arraycopy(state.speed, 0, keptSpeed, 0, MOST_FANS);
            trial.startFrom(now);
            int count = rankSettings();
            int found = NONE;
            for (int i = 0; i < count && found == NONE; i++) {
                int setting = takeSetting(ranks[i] % MOST_SETTINGS);
                if (trial.isSoundAnew()) found = setting;
            }
            System.arraycopy(keptSpeed, 0, state.speed, 0, MOST_FANS);
            return found;
        }

        /** All settings by cost, of like ones by the first FAN's SPEED, then the next one's. */
        private int rankSettings() {
            int count = 1;
            for (int f = 0; f < book.gear.fans; f++) count *= SPEEDS;
            for (int code = 0; code < count; code++) {
                int rest = code;
                int cost = 0;
                for (int f = book.gear.fans - 1; f >= 0; f--) {
                    cost += rest % SPEEDS * book.gear.fanCost[f];
                    rest /= SPEEDS;
                }
                ranks[code] = cost * MOST_SETTINGS + code;
            }
            for (int gap : GAPS) sortBy(gap, count);
            return count;
        }

        private void sortBy(int gap, int count) {
            for (int i = gap; i < count; i++) {
                int rank = ranks[i];
                int j = i;
                for (int to = i - gap; to >= 0 && ranks[to] > rank; to -= gap) {
                    ranks[j] = ranks[to];
                    j = to;
                }
                ranks[j] = rank;
            }
        }

        /** Sets the SPEEDS of a code, whose lowest sign is the last FAN's; answers as setting() does. */
        private int takeSetting(int code) {
            int rest = code;
            int answer = 0;
            for (int f = book.gear.fans - 1; f >= 0; f--) {
                state.speed[f] = rest % SPEEDS;
                answer = answer * SPEEDS + rest % SPEEDS;
                rest /= SPEEDS;
            }
            return answer;
        }
    }

    /** CHANGES and THE ORDER of them. */
    private static final class Plan {
        static final int DOOR = 0;
        static final int FAN = 1;
        static final int WAY = 2;

        private static final int UNKNOWN = 0;
        private static final int YES = 1;
        private static final int NO = 2;

        int count;
        final int[] order = new int[MOST_CHANGES];
        private final State state;
        private final Judge now;
        private final Judge trial;
        private final int[] kind = new int[MOST_CHANGES];
        private final int[] which = new int[MOST_CHANGES];
        private final int[] value = new int[MOST_CHANGES];
        // By the CHANGES that show in the STATE: one made again elsewhere hides the earlier one.
        private final int[] soundBy = new int[1 << MOST_CHANGES];
        private int found;
        private int made;

        Plan(State state, Judge now, Judge trial) {
            this.state = state;
            this.now = now;
            this.trial = trial;
        }

        void forget() {
            found = UNKNOWN;
        }

        int add(int ofKind, int ofWhich, int newValue) {
            kind[count] = ofKind;
            which[count] = ofWhich;
            value[count] = newValue;
            count++;
            forget();
            return count - 1;
        }

        boolean seek() {
            if (found == UNKNOWN) {
                Arrays.fill(soundBy, UNKNOWN);
                trial.startFrom(now);
                made = 0;
                found = isSafeFrom(0, 0) ? YES : NO;
            }
            return found == YES;
        }

        void carryOut() {
            for (int i = 0; i < count; i++) put(order[i], value[order[i]]);
            count = 0;
        }

        private boolean isSafeFrom(int depth, int shown) {
            if (soundBy[shown] == UNKNOWN) soundBy[shown] = trial.isSoundAnew() ? YES : NO;
            if (soundBy[shown] == NO) return false;
            if (depth >= count || depth >= MOST_CHANGES) return true;
            for (int c = 0; c < count; c++) {
                if ((made >> c & 1) != 0) continue;
                int kept = current(c);
                put(c, value[c]);
                made |= 1 << c;
                order[depth] = c;
                boolean safe = isSafeFrom(depth + 1, shown & ~alike(c) | 1 << c);
                made &= ~(1 << c);
                put(c, kept);
                if (safe) return true;
            }
            return false;
        }

        private int alike(int c) {
            int bits = 0;
            for (int i = 0; i < count; i++) {
                if (kind[i] == kind[c] && which[i] == which[c]) bits |= 1 << i;
            }
            return bits;
        }

        private int current(int c) {
            int i = which[c];
            switch (kind[c]) {
                case DOOR: return state.open[i] ? 1 : 0;
                case FAN: return state.speed[i];
                default: return state.fallen[i] ? 1 : 0;
            }
        }

        private void put(int c, int newValue) {
            int i = which[c];
            switch (kind[c]) {
                case DOOR: state.open[i] = newValue == 1; break;
                case FAN: state.speed[i] = newValue; break;
                default: state.fallen[i] = newValue == 1; break;
            }
        }
    }

    /** SMOKE by minutes, and the MEN ahead of it. */
    private static final class Flight {
        int men;
        final int[] knotOf = new int[MOST_MEN];
        final int[] smokeAt = new int[MOST_WAYS];
        final int[] reach = new int[MOST_KNOTS];
        // The KNOTS of a way out, from day back.
        final int[] route = new int[MOST_KNOTS + 1];
        private final Book book;
        private final State state;
        private final int[] smokeIn = new int[MOST_KNOTS];

        Flight(Book book, State state) {
            this.book = book;
            this.state = state;
        }

        int source() {
            for (int w = 0; w < book.ways; w++) {
                if (state.fire[w] != 0) return w;
            }
            return NONE;
        }

        void spread(int[] air) {
            Arrays.fill(smokeAt, NEVER);
            Arrays.fill(smokeIn, NEVER);
            int first = source();
            if (first == NONE) return;
            smokeAt[first] = 0;
            boolean going = true;
            for (int pass = 0; pass <= MOST_WAYS && going; pass++) {
                going = false;
                for (int w = 0; w < book.ways; w++) {
                    if (air[w] != 0 && drift(w, air[w])) going = true;
                }
            }
        }

        private boolean drift(int w, int air) {
            int start = book.startOf(w, air);
            int end = book.endOf(w, air);
            if (start != book.day && smokeIn[start] < smokeAt[w]) smokeAt[w] = smokeIn[start];
            if (smokeAt[w] == NEVER) return false;
            int strength = Math.abs(air);
            int minute = smokeAt[w] + (book.size[w] + strength - 1) / strength;
            if (minute >= smokeIn[end]) return false;
            smokeIn[end] = minute;
            return true;
        }

        void walkFrom(int knot) {
            Arrays.fill(reach, NEVER);
            reach[knot] = 0;
            boolean going = true;
            for (int pass = 0; pass <= MOST_KNOTS && going; pass++) {
                going = false;
                for (int w = 0; w < book.ways; w++) {
                    if (state.fallen[w]) continue;
                    if (walk(w, book.tail[w], book.head[w])) going = true;
                    if (walk(w, book.head[w], book.tail[w])) going = true;
                }
            }
        }

        private boolean walk(int w, int from, int to) {
            if (reach[from] == NEVER) return false;
            int minute = reach[from] + book.walk[w];
            if (minute >= reach[to] || smokeAt[w] <= minute) return false;
            reach[to] = minute;
            return true;
        }

        /** Fills the route from day to the KNOT that was walked from: how many WAYS it takes. */
        int traceBack(int knot) {
            int steps = 0;
            route[0] = book.day;
            for (int i = 0; i < MOST_KNOTS && route[steps] != knot; i++) {
                int before = knotBefore(route[steps]);
                if (before == NONE) return steps;
                steps++;
                route[steps] = before;
            }
            return steps;
        }

        private int knotBefore(int knot) {
            for (int w = 0; w < book.ways; w++) {
                if (state.fallen[w] || smokeAt[w] <= reach[knot]) continue;
                if (book.head[w] == knot && isEarly(w, book.tail[w], knot)) return book.tail[w];
                if (book.tail[w] == knot && isEarly(w, book.head[w], knot)) return book.head[w];
            }
            return NONE;
        }

        private boolean isEarly(int w, int from, int to) {
            return reach[from] != NEVER && reach[from] + book.walk[w] <= reach[to];
        }
    }

    /** READINGS of gauges. */
    private static final class Readings {
        int count;
        private final int[] way = new int[MOST_READINGS];
        private final int[] low = new int[MOST_READINGS];
        private final int[] high = new int[MOST_READINGS];

        void add(int w, int from, int to) {
            way[count] = w;
            low[count] = from;
            high[count] = to;
            count++;
        }

        boolean hold(int[] air) {
            for (int i = 0; i < count; i++) {
                int q = air[way[i]];
                if (q < low[i] || q > high[i]) return false;
            }
            return true;
        }
    }
}
