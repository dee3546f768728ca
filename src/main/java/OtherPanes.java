import java.util.Arrays;

/**
 * A quarter in which each one's window shows another's room, by lot. The
 * document (DOC.md) numbers what each public method promises; words in capitals
 * there are used here in the same sense.
 */
public final class OtherPanes {
    public static final int NONE = -1;
    public static final int GAP = -1000000;

    private static final int NOT_THE_SAME = -2;

    private static final int MOST_BYTES = 1600;
    private static final int MOST_ROOMS = 6;
    private static final int MOST_FACTS = 10;
    private static final int MOST_UNITS = 30;
    private static final int MOST_AROUND = 6;
    private static final int MOST_LETTERS = 8;
    private static final int MOST_DIGITS = 4;
    private static final int MOST_ACTS = 40;
    private static final int MOST_GLIMPSES = 30;
    private static final int BOXES = 3;
    private static final int HOURS = 24;
    private static final int LAST_DAY = 999;
    private static final int FAR_HOURS = 240;
    private static final int HIDE_HOURS = 120;
    private static final int MOST_LATER = 1000;
    private static final int LAST_TIME = 100000;

    private static final int NO_TOKEN = 1;
    private static final int CANNOT_STAND = 2;
    private static final int TOLD_ALREADY = 3;
    private static final int NO_SUCH_NUMBER = 4;
    private static final int NO_SUCH_NAME = 5;

    // Kinds of tokens: a sign's kind is its own byte, a keyword's is FIRST_KEY
    // and its place in KEYWORDS.
    private static final int BAD = -1;
    private static final int END_OF_TEXT = 0;
    private static final int NAME = 1;
    private static final int NUMBER = 2;
    private static final int FIRST_KEY = 200;
    private static final int KEYS = 22;
    private static final String KEYWORDS =
        "room joy curtain lot fact of at lamp tells wants rent dark to draw or and not seen knows want day self ";
    private static final String SIGNS = ";()<>=+-*/%";
    private static final int KEY_ROOM = 200;
    private static final int KEY_JOY = 201;
    private static final int KEY_CURTAIN = 202;
    private static final int KEY_LOT = 203;
    private static final int KEY_FACT = 204;
    private static final int KEY_OF = 205;
    private static final int KEY_AT = 206;
    private static final int KEY_LAMP = 207;
    private static final int KEY_TELLS = 208;
    private static final int KEY_WANTS = 209;
    private static final int KEY_RENT = 210;
    private static final int KEY_DARK = 211;
    private static final int KEY_TO = 212;
    private static final int KEY_DRAW = 213;
    private static final int KEY_OR = 214;
    private static final int KEY_AND = 215;
    private static final int KEY_NOT = 216;
    private static final int KEY_SEEN = 217;
    private static final int KEY_KNOWS = 218;
    private static final int KEY_WANT = 219;
    private static final int KEY_DAY = 220;
    private static final int KEY_SELF = 221;

    private final Reader reader = new Reader();
    private final Acts acts = new Acts();
    private final Clock clock = new Clock();
    private final Scene ahead = new Scene();
    private final Scene[] boxes = new Scene[BOXES];
    private final Plans plans = new Plans();
    private final Glimpses seenOnce = new Glimpses();
    private final int[] laid = new int[MOST_ROOMS];
    private Quarter told = new Quarter();
    private int filledBoxes = 0;
    private int laidCount = 0;
    private int time = 0;

    public OtherPanes() {
        for (int box = 0; box < BOXES; box++) {
            boxes[box] = new Scene();
        }
        acts.restart(told);
    }

    public int feed(int a, int b, int c, int d, int e) {
        Tape tape = reader.tape;
        if (!tape.hasPlaceFor(20)) {
            return NONE;
        }
        tape.addFour(a);
        tape.addFour(b);
        tape.addFour(c);
        tape.addFour(d);
        tape.addFour(e);
        return tape.length;
    }

    public int end(int n) {
        if (n < 0 || n > reader.tape.length) {
            return NONE;
        }
        reader.tape.length = n;
        return n;
    }

    public int quarter() {
        if (!reader.readDraft()) {
            return NONE;
        }
        told = reader.exchangeDraft(told);
        reader.tape.length = 0;
        acts.restart(told);
        plans.forgetAims();
        seenOnce.forget();
        filledBoxes = 0;
        laidCount = 0;
        return told.rooms;
    }

    public int fault(int what) {
        switch (what) {
            case 0: return reader.fault;
            case 1: return reader.faultPlace;
            default: return NONE;
        }
    }

    public int room(int room, int what) {
        if (!told.hasRoom(room)) {
            return GAP;
        }
        Scene now = acts.now();
        switch (what) {
            case 0: return now.windows[room];
            case 1: return now.holderOf(room);
            case 2: return now.isDrawn(room) ? 1 : 0;
            case 3: return now.knows[room];
            case 4: return rentOf(room);
            case 5: return told.joys[room];
            case 6: return told.own[room];
            case 7: return now.seesOne(room) ? 1 : 0;
            default: return GAP;
        }
    }

    public int fact(int fact, int what) {
        if (!told.hasFact(fact)) {
            return NONE;
        }
        switch (what) {
            case 0: return told.factRooms[fact];
            case 1: return told.factHours[fact];
            case 2: return told.lamps >> fact & 1;
            case 3: return acts.now().knowersOf(fact);
            default: return NONE;
        }
    }

    public int wants(int room, int other) {
        if (!told.hasRoom(room) || !told.hasRoom(other)) {
            return NONE;
        }
        return told.wantOf(room, other);
    }

    public int dark(int hour) {
        if (hour < 0 || hour >= HOURS) {
            return NONE;
        }
        return told.isDark(hour) ? 1 : 0;
    }

    public int curtain(int room) {
        if (!told.hasRoom(room)) {
            return NONE;
        }
        Scene now = acts.step();
        now.curtains ^= 1 << room;
        return now.isDrawn(room) ? 1 : 0;
    }

    public int swap(int room, int other) {
        if (!told.hasRoom(room) || !told.hasRoom(other) || room == other) {
            return NONE;
        }
        Scene now = acts.step();
        now.swapWindows(room, other);
        return now.windows[room];
    }

    public int cast() {
        Scene now = acts.step();
        now.castLot(told.rooms);
        return now.showThemselves(told.rooms);
    }

    public int hour() {
        if (acts.now().day > LAST_DAY) {
            return NONE;
        }
        return clock.passHour(told, acts.step());
    }

    public boolean undo() {
        return acts.takeBack();
    }

    public boolean redo() {
        return acts.doAgain();
    }

    public int when(int room, int fact) {
        if (!told.hasRoom(room) || !told.hasFact(fact)) {
            return NONE;
        }
        ahead.copyFrom(acts.now());
        for (int hours = 0; hours < FAR_HOURS; hours++) {
            if (ahead.doesKnow(room, fact)) {
                return hours;
            }
            clock.passHour(told, ahead);
        }
        return ahead.doesKnow(room, fact) ? FAR_HOURS : NONE;
    }

    public int will(int room, int n) {
        if (!told.hasRoom(room) || n < 0 || n > FAR_HOURS) {
            return NONE;
        }
        lookAhead(n);
        return ahead.knows[room];
    }

    public int word(int room, int other) {
        laidCount = 0;
        if (!told.hasRoom(room) || !told.hasRoom(other)) {
            return NONE;
        }
        Scene now = acts.now();
        int at = room;
        for (int steps = 0; steps < told.rooms; steps++) {
            laid[steps] = at;
            if (at == other) {
                laidCount = steps + 1;
                return steps;
            }
            if (now.isDrawn(at)) {
                return NONE;
            }
            at = now.holderOf(at);
        }
        return NONE;
    }

    public int reach(int room) {
        if (!told.hasRoom(room)) {
            return NONE;
        }
        Scene now = acts.now();
        int reached = 1 << room;
        int at = room;
        for (int steps = 0; steps < told.rooms && !now.isDrawn(at); steps++) {
            at = now.holderOf(at);
            reached |= 1 << at;
        }
        return reached;
    }

    public int rents() {
        int sum = 0;
        for (int room = 0; room < told.rooms; room++) {
            sum += rentOf(room);
        }
        return sum;
    }

    public int harm(int room) {
        if (!told.hasRoom(room)) {
            return NONE;
        }
        Scene now = acts.now();
        int sum = 0;
        for (int other = 0; other < told.rooms; other++) {
            if (other != room) {
                sum += Integer.bitCount(now.knows[other] & told.own[room]);
            }
        }
        return sum;
    }

    public int deaf(int fact) {
        if (!told.hasFact(fact)) {
            return NONE;
        }
        lookAhead(FAR_HOURS);
        return told.allRooms() & ~ahead.knowersOf(fact);
    }

    public int gossip(int n) {
        if (n < 0 || n > FAR_HOURS) {
            return NONE;
        }
        lookAhead(n);
        return ahead.knownInAll() - acts.now().knownInAll();
    }

    public int mutual() {
        Scene now = acts.now();
        int twos = 0;
        for (int room = 0; room < told.rooms; room++) {
            int other = now.windows[room];
            boolean both = other > room && now.windows[other] == room;
            if (both && now.seesOne(room) && now.seesOne(other)) {
                twos++;
            }
        }
        return twos;
    }

    public boolean aim(int room, int other) {
        if (!told.hasRoom(room) || !told.hasRoom(other)) {
            return false;
        }
        return plans.setAim(room, other);
    }

    public boolean drop(int room) {
        return told.hasRoom(room) && plans.dropAim(room);
    }

    public int swaps() {
        laidCount = told.rooms;
        return plans.fewestSwaps(told, acts.now(), laid);
    }

    public int rings() {
        laidCount = told.rooms;
        return plans.tradeInRings(told, acts.now(), laid);
    }

    public int best() {
        laidCount = told.rooms;
        return plans.bestLot(told, laid);
    }

    public int odds(int n, int part) {
        if (n < 0 || n > MOST_ROOMS || part < 0 || part > 1) {
            return NONE;
        }
        int all = plans.all.first(told.rooms);
        int pleasing = plans.lotsThatPlease(told, n);
        int common = commonDivisor(all, pleasing);
        if (common == 0) {
            return NONE;
        }
        return (part == 0 ? pleasing : all) / common;
    }

    public int fair() {
        return plans.fairLots(told.rooms);
    }

    public int proof(int set, int what) {
        if (set < 0 || set > told.allFacts() || what < 0 || what > 1) {
            return NONE;
        }
        Scene now = acts.now();
        for (int size = 0; size <= told.rooms; size++) {
            for (int who = 0; who <= told.allRooms(); who++) {
                if (Integer.bitCount(who) == size && (set & ~now.knownTogether(who)) == 0) {
                    return what == 0 ? size : who;
                }
            }
        }
        return NONE;
    }

    public int hide(int room, int fact, int what) {
        boolean can = told.hasRoom(room) && told.hasFact(fact) && what >= 0 && what <= 1;
        if (!can || acts.now().doesKnow(room, fact)) {
            return NONE;
        }
        if (staysHidden(room, fact, 0)) {
            return 0;
        }
        // A fact is seen in its own room alone: no other curtain can keep it.
        int own = 1 << told.factRooms[fact];
        if ((acts.now().curtains & own) == 0 && staysHidden(room, fact, own)) {
            return what == 0 ? 1 : own;
        }
        return NONE;
    }

    public int lies(int i) {
        return i >= 0 && i < laidCount ? laid[i] : NONE;
    }

    public int glimpse(int room, int other, boolean is) {
        if (!told.hasRoom(room) || !told.hasRoom(other)) {
            return NONE;
        }
        return seenOnce.add(room, other, is, time);
    }

    public boolean untell(int glimpse) {
        return seenOnce.takeFrom(glimpse, time);
    }

    public int later(int by) {
        if (by < 0 || by > MOST_LATER || time + by > LAST_TIME) {
            return NONE;
        }
        time += by;
        return time;
    }

    public int lots(int k) {
        return seenOnce.tally(told.rooms, k);
    }

    public int sure(int room, int k) {
        if (!told.hasRoom(room)) {
            return NONE;
        }
        int all = seenOnce.tally(told.rooms, k);
        return all == 0 ? NONE : seenOnce.sameInAll(room, all);
    }

    public int ask(int what, int k) {
        if (what < 0 || what > 1 || seenOnce.tally(told.rooms, k) == 0) {
            return NONE;
        }
        int chosen = NONE;
        int fewest = NONE;
        for (int room = 0; room < told.rooms; room++) {
            int left = seenOnce.mostLeft(room);
            if (chosen == NONE || left < fewest) {
                chosen = room;
                fewest = left;
            }
        }
        return what == 0 ? chosen : fewest;
    }

    public int image(int box) {
        if (box < 0 || box >= BOXES) {
            return NONE;
        }
        boxes[box].copyFrom(acts.now());
        filledBoxes |= 1 << box;
        return boxes[box].day;
    }

    public int back(int box) {
        if (box < 0 || box >= BOXES || (filledBoxes >> box & 1) == 0) {
            return NONE;
        }
        acts.restartFrom(boxes[box]);
        return acts.now().day;
    }

    public int about(int what) {
        Scene now = acts.now();
        switch (what) {
            case 0: return told.rooms;
            case 1: return told.facts;
            case 2: return now.hour;
            case 3: return now.day;
            case 4: return now.seed;
            case 5: return told.tells;
            case 6: return plans.aimCount();
            case 7: return acts.at;
            case 8: return acts.top - acts.at;
            case 9: return seenOnce.count;
            case 10: return time;
            case 11: return reader.tape.length;
            case 12: return told.rent.units;
            case 13: return laidCount;
            default: return NONE;
        }
    }

    private int rentOf(int room) {
        Scene now = acts.now();
        Formula rent = told.rent;
        int shown = now.windows[room];
        rent.setUnit(KEY_JOY, told.joys[shown]);
        rent.setUnit(KEY_SEEN, now.isDrawn(room) ? 0 : 1);
        rent.setUnit(KEY_KNOWS, Integer.bitCount(now.knows[room]));
        rent.setUnit(KEY_WANT, told.wantOf(room, shown));
        rent.setUnit(KEY_DAY, now.day);
        rent.setUnit(KEY_SELF, shown == room ? 1 : 0);
        return rent.value();
    }

    private void lookAhead(int hours) {
        ahead.copyFrom(acts.now());
        for (int passed = 0; passed < hours; passed++) {
            clock.passHour(told, ahead);
        }
    }

    private boolean staysHidden(int room, int fact, int curtains) {
        ahead.copyFrom(acts.now());
        ahead.curtains |= curtains;
        for (int passed = 0; passed < HIDE_HOURS; passed++) {
            clock.passHour(told, ahead);
            if (ahead.doesKnow(room, fact)) {
                return false;
            }
        }
        return true;
    }

    private static int commonDivisor(int a, int b) {
        int larger = a;
        int smaller = b;
        for (int i = 0; i < 64 && smaller != 0; i++) {
            int rest = larger % smaller;
            larger = smaller;
            smaller = rest;
        }
        return larger;
    }

    /** The bytes that have come, and the tokens that they make. */
    private static final class Tape {
        final byte[] bytes = new byte[MOST_BYTES];
        final long[] keys = new long[KEYS];
        int length = 0;
        int at = 0;
        int kind = END_OF_TEXT;
        int place = 0;
        int number = 0;
        long name = 0;

        Tape() {
            int key = 0;
            for (int i = 0; i < KEYWORDS.length(); i++) {
                char c = KEYWORDS.charAt(i);
                if (c == ' ') {
                    key++;
                } else if (key < KEYS) {
                    keys[key] = withLetter(keys[key], c);
                }
            }
        }

        boolean hasPlaceFor(int more) {
            return length + more <= MOST_BYTES;
        }

        void addFour(int four) {
            for (int shift = 24; shift >= 0 && length < MOST_BYTES; shift -= 8) {
                bytes[length] = (byte) (four >> shift);
                length++;
            }
        }

        /** Takes the next token, as long as it can be. */
        void advance() {
            while (at < length && (bytes[at] == 32 || bytes[at] == 10)) {
                at++;
            }
            place = at;
            if (at >= length) {
                kind = END_OF_TEXT;
            } else if (isLetterAt(at)) {
                takeWord();
            } else if (isDigitAt(at)) {
                takeNumber();
            } else {
                takeSign();
            }
        }

        private void takeWord() {
            name = 0;
            while (at < length && isLetterAt(at)) {
                name = withLetter(name, bytes[at]);
                at++;
            }
            kind = at - place > MOST_LETTERS ? BAD : kindOfWord();
        }

        private int kindOfWord() {
            for (int key = 0; key < KEYS; key++) {
                if (keys[key] == name) {
                    return FIRST_KEY + key;
                }
            }
            return NAME;
        }

        private void takeNumber() {
            number = 0;
            while (at < length && isDigitAt(at)) {
                number = number * 10 + (bytes[at] - '0');
                at++;
            }
            boolean isBad = at - place > MOST_DIGITS || isLetterAt(at);
            kind = isBad ? BAD : NUMBER;
        }

        private void takeSign() {
            char sign = (char) (bytes[at] & 255);
            kind = SIGNS.indexOf(sign) >= 0 ? (int) sign : BAD;
            at++;
        }

        private boolean isLetterAt(int i) {
            return i < length && bytes[i] >= 'a' && bytes[i] <= 'z';
        }

        private boolean isDigitAt(int i) {
            return i < length && bytes[i] >= '0' && bytes[i] <= '9';
        }

        // Five bits a letter: words of up to eight letters have unlike numbers.
        private static long withLetter(long word, int letter) {
            return word * 32 + (letter - 'a' + 1);
        }
    }

    /** Reads a quarter's text, up to its first fault. */
    private static final class Reader {
        final Tape tape = new Tape();
        // A quarter of its own, so that a fault leaves the one that holds alone.
        Quarter to = new Quarter();
        int fault = 0;
        int faultPlace = NONE;
        int found = 0;

        Quarter exchangeDraft(Quarter old) {
            Quarter read = to;
            to = old;
            return read;
        }

        boolean readDraft() {
            fault = 0;
            faultPlace = NONE;
            to.clear();
            tape.at = 0;
            tape.advance();
            boolean good = true;
            for (int line = 0; line < MOST_BYTES && good && tape.kind != END_OF_TEXT; line++) {
                good = readLine() && take(';');
            }
            if (good) {
                to.settle();
            }
            return good;
        }

        private boolean readLine() {
            switch (tape.kind) {
                case KEY_ROOM: return readRoom();
                case KEY_LOT: return readLot();
                case KEY_FACT: return readFact();
                case KEY_TELLS: return readTells();
                case KEY_WANTS: return readWants();
                case KEY_RENT: return mayStart(to.rent.units == 0) && readEither(0);
                case KEY_DARK: return readDark();
                case KEY_DRAW: return readDraw();
                default: return refuse(CANNOT_STAND);
            }
        }

        private boolean readRoom() {
            int room = to.rooms;
            if (!mayStart(room < MOST_ROOMS && !to.hasLot) || !isName()) {
                return false;
            }
            if (to.roomNamed(tape.name) != NONE) {
                return refuse(TOLD_ALREADY);
            }
            to.roomNames[room] = tape.name;
            tape.advance();
            if (!take(KEY_JOY) || !takeNumber(9)) {
                return false;
            }
            to.joys[room] = found;
            if (takeIf(KEY_CURTAIN)) {
                to.curtains |= 1 << room;
            }
            to.rooms = room + 1;
            return true;
        }

        private boolean readLot() {
            if (!mayStart(!to.hasLot)) {
                return false;
            }
            to.hasLot = true;
            int shown = 0;
            for (int room = 0; room <= MOST_ROOMS && (room < to.rooms || tape.kind == NAME); room++) {
                if (!isRoom()) {
                    return false;
                }
                if ((shown >> found & 1) != 0 || room >= MOST_ROOMS) {
                    return refuse(TOLD_ALREADY);
                }
                shown |= 1 << found;
                to.windows[room] = found;
                tape.advance();
            }
            return to.rooms > 0 || refuse(CANNOT_STAND);
        }

        private boolean readFact() {
            int fact = to.facts;
            if (!mayStart(fact < MOST_FACTS) || !isName()) {
                return false;
            }
            if (to.factNamed(tape.name) != NONE) {
                return refuse(TOLD_ALREADY);
            }
            to.factNames[fact] = tape.name;
            tape.advance();
            if (!take(KEY_OF) || !isRoom()) {
                return false;
            }
            to.factRooms[fact] = found;
            tape.advance();
            if (!take(KEY_AT) || !takeNumber(HOURS - 1)) {
                return false;
            }
            to.factHours[fact] = found;
            if (takeIf(KEY_LAMP)) {
                to.lamps |= 1 << fact;
            }
            to.facts = fact + 1;
            return true;
        }

        private boolean readTells() {
            tape.advance();
            if (!isRoom()) {
                return false;
            }
            int teller = found;
            tape.advance();
            if (!isRoom()) {
                return false;
            }
            if (found == teller || (to.tellers[found] >> teller & 1) != 0) {
                return refuse(TOLD_ALREADY);
            }
            to.tellers[found] |= 1 << teller;
            to.tells++;
            tape.advance();
            return true;
        }

        private boolean readWants() {
            tape.advance();
            if (!isRoom()) {
                return false;
            }
            int room = found;
            tape.advance();
            if (!isRoom()) {
                return false;
            }
            int other = found;
            if (to.wishes[room][other] != NONE) {
                return refuse(TOLD_ALREADY);
            }
            tape.advance();
            if (!takeNumber(99)) {
                return false;
            }
            to.wishes[room][other] = found;
            return true;
        }

        private boolean readDark() {
            if (!mayStart(to.darkFrom == NONE) || !takeNumber(HOURS - 1)) {
                return false;
            }
            to.darkFrom = found;
            if (!take(KEY_TO) || !takeNumber(HOURS - 1)) {
                return false;
            }
            to.darkTo = found;
            return true;
        }

        private boolean readDraw() {
            if (!mayStart(to.draw == NONE) || !takeNumber(999)) {
                return false;
            }
            to.draw = found;
            return true;
        }

        // e; around: how many units ( e ) and ones behind not it stands within.
        private boolean readEither(int around) {
            boolean good = readBoth(around);
            for (int i = 0; i < MOST_BYTES && good && tape.kind == KEY_OR; i++) {
                tape.advance();
                good = readBoth(around);
                to.rent.put(-KEY_OR);
            }
            return good;
        }

        private boolean readBoth(int around) {
            boolean good = readOne(around);
            for (int i = 0; i < MOST_BYTES && good && tape.kind == KEY_AND; i++) {
                tape.advance();
                good = readOne(around);
                to.rent.put(-KEY_AND);
            }
            return good;
        }

        private boolean readOne(int around) {
            if (tape.kind == KEY_NOT) {
                if (around > MOST_AROUND) {
                    return refuse(CANNOT_STAND);
                }
                tape.advance();
                boolean good = readOne(around + 1);
                to.rent.put(-KEY_NOT);
                return good;
            }
            if (!readSum(around)) {
                return false;
            }
            int sign = tape.kind;
            if (sign != '<' && sign != '>' && sign != '=') {
                return true;
            }
            tape.advance();
            boolean good = readSum(around);
            to.rent.put(-sign);
            return good;
        }

        private boolean readSum(int around) {
            boolean good = readTerm(around);
            for (int i = 0; i < MOST_BYTES && good && (tape.kind == '+' || tape.kind == '-'); i++) {
                int sign = tape.kind;
                tape.advance();
                good = readTerm(around);
                to.rent.put(-sign);
            }
            return good;
        }

        private boolean readTerm(int around) {
            boolean good = readUnit(around);
            for (int i = 0; i < MOST_BYTES && good && isTermSign(tape.kind); i++) {
                int sign = tape.kind;
                tape.advance();
                good = readUnit(around);
                to.rent.put(-sign);
            }
            return good;
        }

        private static boolean isTermSign(int kind) {
            return kind == '*' || kind == '/' || kind == '%';
        }

        private boolean readUnit(int around) {
            if (to.rent.units >= MOST_UNITS) {
                return refuse(CANNOT_STAND);
            }
            switch (tape.kind) {
                case NUMBER:
                    return putUnit(tape.number);
                case KEY_JOY:
                case KEY_SEEN:
                case KEY_KNOWS:
                case KEY_WANT:
                case KEY_DAY:
                case KEY_SELF:
                    return putUnit(-tape.kind);
                case '(':
                    if (around > MOST_AROUND) {
                        return refuse(CANNOT_STAND);
                    }
                    to.rent.units++;
                    tape.advance();
                    return readEither(around + 1) && take(')');
                default:
                    return refuse(CANNOT_STAND);
            }
        }

        private boolean putUnit(int code) {
            to.rent.units++;
            to.rent.put(code);
            tape.advance();
            return true;
        }

        // Takes a line's first word, if there may be a line of this sort yet.
        private boolean mayStart(boolean may) {
            if (!may) {
                return refuse(CANNOT_STAND);
            }
            tape.advance();
            return true;
        }

        private boolean isName() {
            return tape.kind == NAME || refuse(CANNOT_STAND);
        }

        private boolean isRoom() {
            if (!isName()) {
                return false;
            }
            found = to.roomNamed(tape.name);
            return found != NONE || refuse(NO_SUCH_NAME);
        }

        private boolean takeNumber(int most) {
            if (tape.kind != NUMBER) {
                return refuse(CANNOT_STAND);
            }
            found = tape.number;
            if (found > most) {
                return refuse(NO_SUCH_NUMBER);
            }
            tape.advance();
            return true;
        }

        private boolean take(int kind) {
            if (tape.kind != kind) {
                return refuse(CANNOT_STAND);
            }
            tape.advance();
            return true;
        }

        private boolean takeIf(int kind) {
            if (tape.kind != kind) {
                return false;
            }
            tape.advance();
            return true;
        }

        // What is no token has the least fault, whatever else was due there.
        private boolean refuse(int why) {
            fault = tape.kind == BAD ? NO_TOKEN : why;
            faultPlace = tape.place;
            return false;
        }
    }

    /** What a text told. */
    private static final class Quarter {
        int rooms = 0;
        final long[] roomNames = new long[MOST_ROOMS];
        final int[] joys = new int[MOST_ROOMS];
        int curtains = 0;
        int facts = 0;
        final long[] factNames = new long[MOST_FACTS];
        final int[] factRooms = new int[MOST_FACTS];
        final int[] factHours = new int[MOST_FACTS];
        int lamps = 0;
        boolean hasLot = false;
        final int[] windows = new int[MOST_ROOMS];
        int tells = 0;
        final int[] tellers = new int[MOST_ROOMS];
        final int[][] wishes = new int[MOST_ROOMS][MOST_ROOMS];
        int darkFrom = NONE;
        int darkTo = NONE;
        int draw = NONE;
        final Formula rent = new Formula();
        // Worked out at the end of the text: facts of each room, and facts that
        // can be seen at each hour.
        final int[] own = new int[MOST_ROOMS];
        final int[] visible = new int[HOURS];

        void clear() {
            rooms = 0;
            curtains = 0;
            facts = 0;
            lamps = 0;
            hasLot = false;
            tells = 0;
            Arrays.fill(tellers, 0);
            for (int room = 0; room < MOST_ROOMS; room++) {
                Arrays.fill(wishes[room], NONE);
            }
            darkFrom = NONE;
            darkTo = NONE;
            draw = NONE;
            rent.clear();
        }

        void settle() {
            for (int room = 0; room < rooms && !hasLot; room++) {
                windows[room] = room + 1 < rooms ? room + 1 : 0;
            }
            Arrays.fill(own, 0);
            Arrays.fill(visible, 0);
            for (int fact = 0; fact < facts; fact++) {
                int hour = factHours[fact];
                own[factRooms[fact]] |= 1 << fact;
                if (!isDark(hour) || (lamps >> fact & 1) != 0) {
                    visible[hour] |= 1 << fact;
                }
            }
        }

        boolean hasRoom(int room) {
            return room >= 0 && room < rooms;
        }

        boolean hasFact(int fact) {
            return fact >= 0 && fact < facts;
        }

        int allRooms() {
            return (1 << rooms) - 1;
        }

        int allFacts() {
            return (1 << facts) - 1;
        }

        int roomNamed(long name) {
            return placeOf(name, roomNames, rooms);
        }

        int factNamed(long name) {
            return placeOf(name, factNames, facts);
        }

        private static int placeOf(long name, long[] names, int count) {
            for (int i = 0; i < count && i < names.length; i++) {
                if (names[i] == name) {
                    return i;
                }
            }
            return NONE;
        }

        int wantOf(int room, int other) {
            return Math.max(wishes[room][other], 0);
        }

        boolean isDark(int hour) {
            if (darkFrom == NONE) {
                return false;
            }
            if (darkFrom <= darkTo) {
                return hour >= darkFrom && hour <= darkTo;
            }
            return hour >= darkFrom || hour <= darkTo;
        }
    }

    /** The rent's formula: numbers as they are, all else as minus its token's kind, operators behind what they join. */
    private static final class Formula {
        // 30 units, 29 that join two, 7 nots before each of 30 ones, at most.
        final int[] codes = new int[280];
        final int[] stack = new int[MOST_UNITS + 2];
        final int[] unitValues = new int[KEYS];
        int length = 0;
        int units = 0;
        int height = 0;

        void clear() {
            length = 0;
            units = 0;
        }

        void put(int code) {
            if (length < codes.length) {
                codes[length] = code;
                length++;
            }
        }

        void setUnit(int key, int value) {
            unitValues[key - FIRST_KEY] = value;
        }

        int value() {
            height = 0;
            for (int i = 0; i < length; i++) {
                int code = codes[i];
                if (code >= 0) {
                    push(code);
                } else if (isUnit(-code)) {
                    push(unitValues[-code - FIRST_KEY]);
                } else if (-code == KEY_NOT) {
                    push(pop() == 0 ? 1 : 0);
                } else {
                    int right = pop();
                    int left = pop();
                    push(joined(-code, left, right));
                }
            }
            return pop();
        }

        private static boolean isUnit(int kind) {
            return kind == KEY_JOY || kind >= KEY_SEEN && kind <= KEY_SELF;
        }

        private void push(int value) {
            if (height < stack.length) {
                stack[height] = value;
                height++;
            }
        }

        private int pop() {
            if (height <= 0) {
                return 0;
            }
            height--;
            return stack[height];
        }

        private static int joined(int sign, int left, int right) {
            switch (sign) {
                case '+': return left + right;
                case '-': return left - right;
                case '*': return left * right;
                case '/': return right == 0 ? 0 : left / right;
                case '%': return right == 0 ? 0 : left % right;
                case '<': return left < right ? 1 : 0;
                case '>': return left > right ? 1 : 0;
                case '=': return left == right ? 1 : 0;
                case KEY_AND: return left != 0 && right != 0 ? 1 : 0;
                case KEY_OR: return left != 0 || right != 0 ? 1 : 0;
                default: return 0;
            }
        }
    }

    /** How things stand at one moment. */
    private static final class Scene {
        final int[] windows = new int[MOST_ROOMS];
        final int[] knows = new int[MOST_ROOMS];
        int curtains = 0;
        int hour = 0;
        int day = 0;
        int seed = 0;

        void start(Quarter told) {
            for (int room = 0; room < MOST_ROOMS; room++) {
                boolean is = room < told.rooms;
                windows[room] = is ? told.windows[room] : NONE;
                knows[room] = is ? told.own[room] : 0;
            }
            curtains = told.curtains;
            hour = 0;
            day = 0;
            seed = Math.max(told.draw, 0);
        }

        void copyFrom(Scene other) {
            System.arraycopy(other.windows, 0, windows, 0, MOST_ROOMS);
            System.arraycopy(other.knows, 0, knows, 0, MOST_ROOMS);
            curtains = other.curtains;
            hour = other.hour;
            day = other.day;
            seed = other.seed;
        }

        boolean isDrawn(int room) {
            return (curtains >> room & 1) != 0;
        }

        boolean seesOne(int room) {
            return !isDrawn(windows[room]);
        }

        /** Whose window shows a room. */
        int holderOf(int shown) {
            for (int room = 0; room < MOST_ROOMS; room++) {
                if (windows[room] == shown) {
                    return room;
                }
            }
            return shown;
        }

        void swapWindows(int room, int other) {
            int shown = windows[room];
            windows[room] = windows[other];
            windows[other] = shown;
        }

        void castLot(int rooms) {
            for (int room = rooms - 1; room > 0; room--) {
                seed = (seed * 137 + 71) % 1000;
                swapWindows(room, seed % (room + 1));
            }
        }

        int showThemselves(int rooms) {
            int count = 0;
            for (int room = 0; room < rooms; room++) {
                if (windows[room] == room) {
                    count++;
                }
            }
            return count;
        }

        boolean doesKnow(int room, int fact) {
            return (knows[room] >> fact & 1) != 0;
        }

        /** Makes a room know facts: how many of them are new to it. */
        int learn(int room, int facts) {
            int fresh = facts & ~knows[room];
            knows[room] |= fresh;
            return Integer.bitCount(fresh);
        }

        int knowersOf(int fact) {
            int who = 0;
            for (int room = 0; room < MOST_ROOMS; room++) {
                if (doesKnow(room, fact)) {
                    who |= 1 << room;
                }
            }
            return who;
        }

        int knownTogether(int who) {
            int facts = 0;
            for (int room = 0; room < MOST_ROOMS; room++) {
                if ((who >> room & 1) != 0) {
                    facts |= knows[room];
                }
            }
            return facts;
        }

        int knownInAll() {
            int count = 0;
            for (int room = 0; room < MOST_ROOMS; room++) {
                count += Integer.bitCount(knows[room]);
            }
            return count;
        }
    }

    /** Lets hours pass in a scene. */
    private static final class Clock {
        final int[] before = new int[MOST_ROOMS];

        /** One hour: how many facts are learnt by all together. */
        int passHour(Quarter told, Scene scene) {
            int learnt = 0;
            int visible = told.visible[scene.hour];
            for (int room = 0; room < told.rooms && visible != 0; room++) {
                if (scene.seesOne(room)) {
                    learnt += scene.learn(room, visible & told.own[scene.windows[room]]);
                }
            }
            scene.hour++;
            if (scene.hour >= HOURS) {
                scene.hour = 0;
                scene.day++;
                learnt += meetAtTheWell(told, scene);
            }
            return learnt;
        }

        // All speak of what they knew before any of them heard anything here.
        private int meetAtTheWell(Quarter told, Scene scene) {
            System.arraycopy(scene.knows, 0, before, 0, MOST_ROOMS);
            int learnt = 0;
            for (int room = 0; room < told.rooms; room++) {
                for (int teller = 0; teller < told.rooms; teller++) {
                    if ((told.tellers[room] >> teller & 1) != 0) {
                        learnt += scene.learn(room, before[teller]);
                    }
                }
            }
            return learnt;
        }
    }

    /** The scenes between the acts that are kept: scenes 0 to top, of which number at is now. */
    private static final class Acts {
        final Scene[] scenes = new Scene[MOST_ACTS + 1];
        int at = 0;
        int top = 0;

        Acts() {
            for (int i = 0; i <= MOST_ACTS; i++) {
                scenes[i] = new Scene();
            }
        }

        Scene now() {
            return scenes[at];
        }

        void restart(Quarter told) {
            at = 0;
            top = 0;
            scenes[0].start(told);
        }

        void restartFrom(Scene scene) {
            at = 0;
            top = 0;
            scenes[0].copyFrom(scene);
        }

        /** A new scene behind the one that was, for an act to change. */
        Scene step() {
            Scene was = scenes[at];
            if (at >= MOST_ACTS) {
                forgetOldest();
            } else {
                at++;
            }
            top = at;
            scenes[at].copyFrom(was);
            return scenes[at];
        }

        private void forgetOldest() {
            Scene oldest = scenes[0];
            for (int i = 0; i < MOST_ACTS; i++) {
                scenes[i] = scenes[i + 1];
            }
            scenes[MOST_ACTS] = oldest;
        }

        boolean takeBack() {
            if (at <= 0) {
                return false;
            }
            at--;
            return true;
        }

        boolean doAgain() {
            if (at >= top) {
                return false;
            }
            at++;
            return true;
        }
    }

    /** All lots of so many rooms, one after another, the first first. */
    private static final class Lots {
        final int[] lot = new int[MOST_ROOMS];
        int rooms = 0;

        /** The first lot: how many there are. */
        int first(int count) {
            rooms = Math.min(count, MOST_ROOMS);
            int many = 1;
            for (int room = 0; room < rooms; room++) {
                lot[room] = room;
                many *= room + 1;
            }
            return many;
        }

        /** The next lot; behind the last one it stays. */
        void next() {
            int turn = rooms - 2;
            while (turn >= 0 && lot[turn] > lot[turn + 1]) {
                turn--;
            }
            if (turn < 0) {
                return;
            }
            int larger = rooms - 1;
            while (larger > turn && lot[larger] < lot[turn]) {
                larger--;
            }
            exchange(turn, larger);
            int right = rooms - 1;
            for (int left = turn + 1; left < right; left++) {
                exchange(left, right);
                right--;
            }
        }

        private void exchange(int i, int j) {
            int kept = lot[i];
            lot[i] = lot[j];
            lot[j] = kept;
        }

        /** Whether each room shows one of those allowed to it, as bits. */
        boolean isAllowed(int[] allowed) {
            for (int room = 0; room < rooms; room++) {
                if ((allowed[room] >> lot[room] & 1) == 0) {
                    return false;
                }
            }
            return true;
        }

        void copyTo(int[] to) {
            System.arraycopy(lot, 0, to, 0, rooms);
        }
    }

    /** Aims, and lots that would be better. */
    private static final class Plans {
        final Lots all = new Lots();
        final int[] aims = new int[MOST_ROOMS];
        final int[] allowed = new int[MOST_ROOMS];
        final int[] points = new int[MOST_ROOMS];
        final int[] holders = new int[MOST_ROOMS];

        Plans() {
            Arrays.fill(aims, NONE);
        }

        void forgetAims() {
            Arrays.fill(aims, NONE);
        }

        boolean setAim(int room, int other) {
            for (int i = 0; i < MOST_ROOMS; i++) {
                if (i != room && aims[i] == other) {
                    return false;
                }
            }
            aims[room] = other;
            return true;
        }

        boolean dropAim(int room) {
            if (aims[room] == NONE) {
                return false;
            }
            aims[room] = NONE;
            return true;
        }

        int aimCount() {
            int count = 0;
            for (int room = 0; room < MOST_ROOMS; room++) {
                if (aims[room] != NONE) {
                    count++;
                }
            }
            return count;
        }

        private void allowAims(boolean themselves) {
            for (int room = 0; room < MOST_ROOMS; room++) {
                allowed[room] = aims[room] == NONE ? -1 : 1 << aims[room];
                if (!themselves) {
                    allowed[room] &= ~(1 << room);
                }
            }
        }

        int fewestSwaps(Quarter told, Scene now, int[] laid) {
            allowAims(true);
            for (int room = 0; room < told.rooms; room++) {
                holders[now.windows[room]] = room;
            }
            int fewest = told.rooms + 1;
            int many = all.first(told.rooms);
            for (int i = 0; i < many; i++) {
                if (all.isAllowed(allowed)) {
                    int count = swapsTo(all.lot, told.rooms);
                    if (count < fewest) {
                        fewest = count;
                        all.copyTo(laid);
                    }
                }
                all.next();
            }
            return fewest;
        }

        // Each ring of windows to pass on takes one swap less than it has rooms.
        private int swapsTo(int[] lot, int rooms) {
            for (int room = 0; room < rooms; room++) {
                points[room] = holders[lot[room]];
            }
            int seen = 0;
            int count = rooms;
            for (int room = 0; room < rooms; room++) {
                if ((seen >> room & 1) == 0) {
                    count--;
                    seen |= ringOf(room, rooms);
                }
            }
            return count;
        }

        /** The rooms that one comes to from a room by what each points to, as bits. */
        private int ringOf(int room, int rooms) {
            int ring = 0;
            int at = room;
            for (int i = 0; i < rooms; i++) {
                at = points[at];
                ring |= 1 << at;
            }
            return ring;
        }

        int tradeInRings(Quarter told, Scene now, int[] laid) {
            int left = told.allRooms();
            int sum = 0;
            for (int round = 0; round < told.rooms && left != 0; round++) {
                pointToWanted(told, now, left);
                int gone = 0;
                for (int room = 0; room < told.rooms; room++) {
                    boolean isLeft = (left >> room & 1) != 0;
                    if (isLeft && (ringOf(room, told.rooms) >> room & 1) != 0) {
                        gone |= 1 << room;
                        laid[room] = now.windows[points[room]];
                        sum += told.wantOf(room, laid[room]);
                    }
                }
                left &= ~gone;
            }
            return sum;
        }

        private void pointToWanted(Quarter told, Scene now, int left) {
            for (int room = 0; room < told.rooms; room++) {
                int most = NONE;
                for (int shown = 0; shown < told.rooms; shown++) {
                    int holder = now.holderOf(shown);
                    int want = told.wantOf(room, shown);
                    if ((left >> holder & 1) != 0 && want > most) {
                        most = want;
                        points[room] = holder;
                    }
                }
            }
        }

        int bestLot(Quarter told, int[] laid) {
            int most = NONE;
            int many = all.first(told.rooms);
            for (int i = 0; i < many; i++) {
                int sum = 0;
                for (int room = 0; room < told.rooms; room++) {
                    sum += told.wantOf(room, all.lot[room]);
                }
                if (sum > most) {
                    most = sum;
                    all.copyTo(laid);
                }
                all.next();
            }
            return most;
        }

        int lotsThatPlease(Quarter told, int least) {
            int count = 0;
            int many = all.first(told.rooms);
            for (int i = 0; i < many; i++) {
                int pleased = 0;
                for (int room = 0; room < told.rooms; room++) {
                    if (told.wantOf(room, all.lot[room]) > 0) {
                        pleased++;
                    }
                }
                if (pleased >= least) {
                    count++;
                }
                all.next();
            }
            return count;
        }

        int fairLots(int rooms) {
            allowAims(false);
            int count = 0;
            int many = all.first(rooms);
            for (int i = 0; i < many; i++) {
                if (all.isAllowed(allowed)) {
                    count++;
                }
                all.next();
            }
            return count;
        }
    }

    /** What was seen of a lot that was, and when it was told and untold. */
    private static final class Glimpses {
        final Lots all = new Lots();
        final int[] rooms = new int[MOST_GLIMPSES];
        final int[] others = new int[MOST_GLIMPSES];
        final int[] toldAt = new int[MOST_GLIMPSES];
        final int[] untoldAt = new int[MOST_GLIMPSES];
        final int[] allowed = new int[MOST_ROOMS];
        final int[][] tallies = new int[MOST_ROOMS][MOST_ROOMS];
        int denied = 0;
        int count = 0;

        void forget() {
            count = 0;
            denied = 0;
        }

        int add(int room, int other, boolean is, int time) {
            if (count >= MOST_GLIMPSES) {
                return NONE;
            }
            rooms[count] = room;
            others[count] = other;
            toldAt[count] = time;
            untoldAt[count] = NONE;
            if (!is) {
                denied |= 1 << count;
            }
            count++;
            return count - 1;
        }

        boolean takeFrom(int glimpse, int time) {
            if (glimpse < 0 || glimpse >= count || untoldAt[glimpse] != NONE) {
                return false;
            }
            untoldAt[glimpse] = time;
            return true;
        }

        private boolean counts(int glimpse, int known) {
            boolean isUntold = untoldAt[glimpse] != NONE && untoldAt[glimpse] <= known;
            return toldAt[glimpse] <= known && !isUntold;
        }

        private void allowAsKnown(int known) {
            Arrays.fill(allowed, -1);
            for (int glimpse = 0; glimpse < count; glimpse++) {
                if (counts(glimpse, known)) {
                    int bit = 1 << others[glimpse];
                    boolean isDenied = (denied >> glimpse & 1) != 0;
                    allowed[rooms[glimpse]] &= isDenied ? ~bit : bit;
                }
            }
        }

        /** Counts the lots that can have been: in all, and for each room and what it showed. */
        int tally(int roomCount, int known) {
            allowAsKnown(known);
            for (int room = 0; room < MOST_ROOMS; room++) {
                Arrays.fill(tallies[room], 0);
            }
            int sum = 0;
            int many = all.first(roomCount);
            for (int i = 0; i < many; i++) {
                if (all.isAllowed(allowed)) {
                    sum++;
                    for (int room = 0; room < roomCount; room++) {
                        tallies[room][all.lot[room]]++;
                    }
                }
                all.next();
            }
            return sum;
        }

        int sameInAll(int room, int sum) {
            for (int shown = 0; shown < MOST_ROOMS; shown++) {
                if (tallies[room][shown] == sum) {
                    return shown;
                }
            }
            return NOT_THE_SAME;
        }

        int mostLeft(int room) {
            int most = 0;
            for (int shown = 0; shown < MOST_ROOMS; shown++) {
                most = Math.max(most, tallies[room][shown]);
            }
            return most;
        }
    }
}
