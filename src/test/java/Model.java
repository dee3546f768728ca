import java.math.BigInteger;
import java.util.ArrayDeque;
import java.util.ArrayList;
import java.util.Arrays;
import java.util.Deque;
import java.util.HashMap;
import java.util.HashSet;
import java.util.List;
import java.util.Map;
import java.util.Set;
import java.util.TreeSet;

/** The document once more, as plainly and slowly as can be, for OtherPanes to be compared with. */
final class Model {
    static final int NONE = -1;
    static final int GAP = -1000000;
    static final Set<String> WORDS = Set.of("room", "joy", "curtain", "lot", "fact", "of", "at", "lamp", "tells",
        "wants", "rent", "dark", "to", "draw", "or", "and", "not", "seen", "knows", "want", "day", "self");

    static final class Fault extends RuntimeException {
        private static final long serialVersionUID = 1L;
        final int kind;
        final int place;

        Fault(int kind, int place) {
            this.kind = kind;
            this.place = place;
        }
    }

    interface Worth {
        int of(Map<String, Integer> units);
    }

    record Token(String text, int place, boolean bad) {
        boolean isName() {
            return !bad && !text.isEmpty() && Character.isLetter(text.charAt(0)) && !WORDS.contains(text);
        }

        boolean isNumber() {
            return !bad && !text.isEmpty() && Character.isDigit(text.charAt(0));
        }
    }

    record Fact(String name, int room, int hour, boolean lamp) { }

    record Glimpse(int room, int other, boolean is, int told, int[] untold) { }

    /** A text that was read. */
    static final class Told {
        final List<String> rooms = new ArrayList<>();
        final List<Integer> joys = new ArrayList<>();
        final Set<Integer> curtains = new TreeSet<>();
        final List<Fact> facts = new ArrayList<>();
        final Set<List<Integer>> tells = new HashSet<>();
        final Map<List<Integer>, Integer> wants = new HashMap<>();
        List<Integer> lot = null;
        Worth rent = null;
        int units = 0;
        int[] dark = null;
        Integer draw = null;

        boolean isDark(int hour) {
            if (dark == null) {
                return false;
            }
            for (int h = dark[0]; ; h = (h + 1) % 24) {
                if (h == hour) {
                    return true;
                }
                if (h == dark[1]) {
                    return false;
                }
            }
        }

        int want(int a, int b) {
            return wants.getOrDefault(List.of(a, b), 0);
        }
    }

    /** What an act changes. */
    static final class State {
        List<Integer> windows = new ArrayList<>();
        Set<Integer> curtains = new TreeSet<>();
        List<Set<Integer>> knows = new ArrayList<>();
        int hour = 0;
        int day = 0;
        int seed = 0;

        State copy() {
            State s = new State();
            s.windows.addAll(windows);
            s.curtains.addAll(curtains);
            for (Set<Integer> k : knows) {
                s.knows.add(new TreeSet<>(k));
            }
            s.hour = hour;
            s.day = day;
            s.seed = seed;
            return s;
        }

        boolean sees(int room, int other) {
            return windows.get(room) == other && !curtains.contains(other);
        }

        int known() {
            int n = 0;
            for (Set<Integer> k : knows) {
                n += k.size();
            }
            return n;
        }
    }

    static final class Text {
        final List<Token> tokens = new ArrayList<>();
        final Told told = new Told();
        int next = 0;

        Text(String s) {
            int at = 0;
            while (true) {
                while (at < s.length() && (s.charAt(at) == ' ' || s.charAt(at) == '\n')) {
                    at++;
                }
                if (at == s.length()) {
                    tokens.add(new Token("", at, false));
                    return;
                }
                int from = at;
                String rest = s.substring(at);
                String word = head(rest, "[a-z]+");
                String number = head(rest, "[0-9]+");
                if (!word.isEmpty()) {
                    at += word.length();
                    tokens.add(new Token(word, from, word.length() > 8));
                } else if (!number.isEmpty()) {
                    at += number.length();
                    boolean letter = at < s.length() && s.charAt(at) >= 'a' && s.charAt(at) <= 'z';
                    tokens.add(new Token(number, from, letter || number.length() > 4));
                } else {
                    at++;
                    tokens.add(new Token(rest.substring(0, 1), from, ";()<>=+-*/%".indexOf(rest.charAt(0)) < 0));
                }
            }
        }

        private static String head(String rest, String pattern) {
            java.util.regex.Matcher m = java.util.regex.Pattern.compile(pattern).matcher(rest);
            return m.lookingAt() ? m.group() : "";
        }

        Token peek() {
            return tokens.get(next);
        }

        Fault fault(int kind, Token t) {
            return new Fault(t.bad ? 1 : kind, t.place);
        }

        Token expect(String text) {
            Token t = peek();
            if (t.bad || !t.text.equals(text)) {
                throw fault(2, t);
            }
            next++;
            return t;
        }

        boolean accept(String text) {
            if (!peek().bad && peek().text.equals(text)) {
                next++;
                return true;
            }
            return false;
        }

        Token name() {
            if (!peek().isName()) {
                throw fault(2, peek());
            }
            return tokens.get(next++);
        }

        int number(int most) {
            Token t = peek();
            if (!t.isNumber()) {
                throw fault(2, t);
            }
            int n = Integer.parseInt(t.text);
            if (n > most) {
                throw fault(4, t);
            }
            next++;
            return n;
        }

        int oldRoom() {
            Token t = name();
            int room = told.rooms.indexOf(t.text);
            if (room < 0) {
                throw fault(5, t);
            }
            return room;
        }

        Told read() {
            while (peek().bad || !peek().text.isEmpty()) {
                line();
                expect(";");
            }
            return told;
        }

        void line() {
            Token first = peek();
            if (first.bad) {
                throw fault(1, first);
            }
            next++;
            switch (first.text) {
                case "room" -> {
                    if (told.rooms.size() == 6 || told.lot != null) {
                        throw fault(2, first);
                    }
                    Token t = name();
                    if (told.rooms.contains(t.text)) {
                        throw fault(3, t);
                    }
                    expect("joy");
                    told.joys.add(number(9));
                    if (accept("curtain")) {
                        told.curtains.add(told.rooms.size());
                    }
                    told.rooms.add(t.text);
                }
                case "lot" -> {
                    if (told.lot != null) {
                        throw fault(2, first);
                    }
                    told.lot = new ArrayList<>();
                    do {
                        Token t = peek();
                        int room = oldRoom();
                        if (told.lot.contains(room)) {
                            throw fault(3, t);
                        }
                        told.lot.add(room);
                    } while (peek().isName());
                    if (told.lot.size() < told.rooms.size()) {
                        throw fault(2, peek());
                    }
                }
                case "fact" -> {
                    if (told.facts.size() == 10) {
                        throw fault(2, first);
                    }
                    Token t = name();
                    for (Fact f : told.facts) {
                        if (f.name.equals(t.text)) {
                            throw fault(3, t);
                        }
                    }
                    expect("of");
                    int room = oldRoom();
                    expect("at");
                    int hour = number(23);
                    told.facts.add(new Fact(t.text, room, hour, accept("lamp")));
                }
                case "tells" -> {
                    int a = oldRoom();
                    Token t = peek();
                    int b = oldRoom();
                    if (a == b || !told.tells.add(List.of(a, b))) {
                        throw fault(3, t);
                    }
                }
                case "wants" -> {
                    int a = oldRoom();
                    Token t = peek();
                    int b = oldRoom();
                    if (told.wants.containsKey(List.of(a, b))) {
                        throw fault(3, t);
                    }
                    told.wants.put(List.of(a, b), number(99));
                }
                case "rent" -> {
                    if (told.rent != null) {
                        throw fault(2, first);
                    }
                    told.rent = either(0);
                }
                case "dark" -> {
                    if (told.dark != null) {
                        throw fault(2, first);
                    }
                    int from = number(23);
                    expect("to");
                    told.dark = new int[] {from, number(23)};
                }
                case "draw" -> {
                    if (told.draw != null) {
                        throw fault(2, first);
                    }
                    told.draw = number(999);
                }
                default -> throw fault(2, first);
            }
        }

        Worth either(int depth) {
            Worth left = both(depth);
            while (accept("or")) {
                Worth a = left;
                Worth b = both(depth);
                left = u -> a.of(u) != 0 | b.of(u) != 0 ? 1 : 0;
            }
            return left;
        }

        Worth both(int depth) {
            Worth left = one(depth);
            while (accept("and")) {
                Worth a = left;
                Worth b = one(depth);
                left = u -> a.of(u) != 0 & b.of(u) != 0 ? 1 : 0;
            }
            return left;
        }

        Worth one(int depth) {
            Token t = peek();
            if (accept("not")) {
                if (depth == 7) {
                    throw fault(2, t);
                }
                Worth a = one(depth + 1);
                return u -> a.of(u) == 0 ? 1 : 0;
            }
            Worth a = sum(depth);
            for (String sign : List.of("<", ">", "=")) {
                if (accept(sign)) {
                    Worth b = sum(depth);
                    return u -> {
                        int c = Integer.compare(a.of(u), b.of(u));
                        return c == "<=>".indexOf(sign) - 1 ? 1 : 0;
                    };
                }
            }
            return a;
        }

        Worth sum(int depth) {
            Worth left = term(depth);
            while (!peek().bad && (peek().text.equals("+") || peek().text.equals("-"))) {
                boolean plus = tokens.get(next++).text.equals("+");
                Worth a = left;
                Worth b = term(depth);
                left = u -> plus ? a.of(u) + b.of(u) : a.of(u) - b.of(u);
            }
            return left;
        }

        Worth term(int depth) {
            Worth left = unit(depth);
            while (!peek().bad && List.of("*", "/", "%").contains(peek().text)) {
                String sign = tokens.get(next++).text;
                Worth a = left;
                Worth b = unit(depth);
                left = u -> {
                    int x = a.of(u);
                    int y = b.of(u);
                    return sign.equals("*") ? x * y : y == 0 ? 0 : (int) (sign.equals("/") ? (long) x / y : (long) x % y);
                };
            }
            return left;
        }

        Worth unit(int depth) {
            Token t = peek();
            if (t.bad || told.units == 30) {
                throw fault(2, t);
            }
            told.units++;
            next++;
            if (t.isNumber()) {
                int n = Integer.parseInt(t.text);
                return u -> n;
            }
            if (List.of("joy", "seen", "knows", "want", "day", "self").contains(t.text)) {
                return u -> u.get(t.text);
            }
            if (!t.text.equals("(") || depth == 7) {
                throw fault(2, t);
            }
            Worth inner = either(depth + 1);
            expect(")");
            return inner;
        }
    }

    final StringBuilder tape = new StringBuilder();
    Told told = new Told();
    State now = new State();
    final Deque<State> undone = new ArrayDeque<>();
    final Deque<State> done = new ArrayDeque<>();
    final Map<Integer, Integer> aims = new HashMap<>();
    final List<Glimpse> glimpses = new ArrayList<>();
    final State[] boxes = new State[3];
    List<Integer> laid = List.of();
    int time = 0;
    int fault = 0;
    int faultPlace = NONE;

    int n() {
        return told.rooms.size();
    }

    boolean isRoom(int room) {
        return room >= 0 && room < n();
    }

    boolean isFact(int fact) {
        return fact >= 0 && fact < told.facts.size();
    }

    static int bits(Iterable<Integer> set) {
        int bits = 0;
        for (int i : set) {
            bits += 1 << i;
        }
        return bits;
    }

    int feed(int... five) {
        if (tape.length() > 1580) {
            return NONE;
        }
        for (int four : five) {
            for (int i = 3; i >= 0; i--) {
                tape.append((char) (four >>> 8 * i & 255));
            }
        }
        return tape.length();
    }

    int end(int n) {
        if (n < 0 || n > tape.length()) {
            return NONE;
        }
        tape.setLength(n);
        return n;
    }

    int quarter() {
        try {
            told = new Text(tape.toString()).read();
        } catch (Fault f) {
            fault = f.kind;
            faultPlace = f.place;
            return NONE;
        }
        fault = 0;
        faultPlace = NONE;
        tape.setLength(0);
        now = new State();
        for (int i = 0; i < n(); i++) {
            now.windows.add(told.lot != null ? told.lot.get(i) : (i + 1) % n());
            now.knows.add(ownFacts(i));
        }
        now.curtains.addAll(told.curtains);
        now.seed = told.draw == null ? 0 : told.draw;
        done.clear();
        undone.clear();
        aims.clear();
        glimpses.clear();
        Arrays.fill(boxes, null);
        laid = List.of();
        return n();
    }

    Set<Integer> ownFacts(int room) {
        Set<Integer> own = new TreeSet<>();
        for (int f = 0; f < told.facts.size(); f++) {
            if (told.facts.get(f).room == room) {
                own.add(f);
            }
        }
        return own;
    }

    int fault(int what) {
        return what == 0 ? fault : what == 1 ? faultPlace : NONE;
    }

    int rentOf(int r) {
        if (told.rent == null) {
            return 0;
        }
        int w = now.windows.get(r);
        return told.rent.of(Map.of("joy", told.joys.get(w), "seen", now.curtains.contains(r) ? 0 : 1,
            "knows", now.knows.get(r).size(), "want", told.want(r, w), "day", now.day, "self", w == r ? 1 : 0));
    }

    int room(int r, int what) {
        if (!isRoom(r)) {
            return GAP;
        }
        return switch (what) {
            case 0 -> now.windows.get(r);
            case 1 -> now.windows.indexOf(r);
            case 2 -> now.curtains.contains(r) ? 1 : 0;
            case 3 -> bits(now.knows.get(r));
            case 4 -> rentOf(r);
            case 5 -> told.joys.get(r);
            case 6 -> bits(ownFacts(r));
            case 7 -> now.sees(r, now.windows.get(r)) ? 1 : 0;
            default -> GAP;
        };
    }

    int fact(int f, int what) {
        if (!isFact(f)) {
            return NONE;
        }
        return switch (what) {
            case 0 -> told.facts.get(f).room;
            case 1 -> told.facts.get(f).hour;
            case 2 -> told.facts.get(f).lamp ? 1 : 0;
            case 3 -> bits(knowers(now, f));
            default -> NONE;
        };
    }

    Set<Integer> knowers(State s, int f) {
        Set<Integer> who = new TreeSet<>();
        for (int r = 0; r < n(); r++) {
            if (s.knows.get(r).contains(f)) {
                who.add(r);
            }
        }
        return who;
    }

    int wants(int a, int b) {
        return isRoom(a) && isRoom(b) ? told.want(a, b) : NONE;
    }

    int dark(int hour) {
        return hour < 0 || hour > 23 ? NONE : told.isDark(hour) ? 1 : 0;
    }

    void act() {
        done.push(now.copy());
        undone.clear();
        if (done.size() > 40) {
            done.removeLast();
        }
    }

    int curtain(int r) {
        if (!isRoom(r)) {
            return NONE;
        }
        act();
        if (now.curtains.remove(r)) {
            return 0;
        }
        now.curtains.add(r);
        return 1;
    }

    static void swapIn(List<Integer> list, int a, int b) {
        int kept = list.get(a);
        list.set(a, list.get(b));
        list.set(b, kept);
    }

    int swap(int a, int b) {
        if (!isRoom(a) || !isRoom(b) || a == b) {
            return NONE;
        }
        act();
        swapIn(now.windows, a, b);
        return now.windows.get(a);
    }

    int cast() {
        act();
        for (int r = n() - 1; r >= 1; r--) {
            now.seed = (137 * now.seed + 71) % 1000;
            swapIn(now.windows, r, now.seed % (r + 1));
        }
        int selves = 0;
        for (int r = 0; r < n(); r++) {
            selves += now.windows.get(r) == r ? 1 : 0;
        }
        return selves;
    }

    void pass(State s) {
        for (int r = 0; r < n(); r++) {
            for (int f = 0; f < told.facts.size(); f++) {
                Fact fact = told.facts.get(f);
                if (s.sees(r, fact.room) && fact.hour == s.hour && (fact.lamp || !told.isDark(s.hour))) {
                    s.knows.get(r).add(f);
                }
            }
        }
        s.hour++;
        if (s.hour == 24) {
            s.hour = 0;
            s.day++;
            State old = s.copy();
            for (List<Integer> t : told.tells) {
                s.knows.get(t.get(1)).addAll(old.knows.get(t.get(0)));
            }
        }
    }

    int hour() {
        if (now.day > 999) {
            return NONE;
        }
        act();
        int before = now.known();
        pass(now);
        return now.known() - before;
    }

    boolean undo() {
        if (done.isEmpty()) {
            return false;
        }
        undone.push(now);
        now = done.pop();
        return true;
    }

    boolean redo() {
        if (undone.isEmpty()) {
            return false;
        }
        done.push(now);
        now = undone.pop();
        return true;
    }

    State behind(int hours) {
        State s = now.copy();
        for (int i = 0; i < hours; i++) {
            pass(s);
        }
        return s;
    }

    int when(int r, int f) {
        if (!isRoom(r) || !isFact(f)) {
            return NONE;
        }
        State s = now.copy();
        int hours = 0;
        while (!s.knows.get(r).contains(f)) {
            if (hours == 240) {
                return NONE;
            }
            pass(s);
            hours++;
        }
        return hours;
    }

    int will(int r, int hours) {
        return !isRoom(r) || hours < 0 || hours > 240 ? NONE : bits(behind(hours).knows.get(r));
    }

    // Breadth first over all who see one, though here each is seen by one at most.
    Map<Integer, List<Integer>> ways(int from) {
        Map<Integer, List<Integer>> ways = new HashMap<>();
        ways.put(from, List.of(from));
        Deque<Integer> queue = new ArrayDeque<>(List.of(from));
        while (!queue.isEmpty()) {
            int at = queue.poll();
            for (int r = 0; r < n(); r++) {
                if (now.sees(r, at) && !ways.containsKey(r)) {
                    List<Integer> way = new ArrayList<>(ways.get(at));
                    way.add(r);
                    ways.put(r, way);
                    queue.add(r);
                }
            }
        }
        return ways;
    }

    int word(int a, int b) {
        laid = List.of();
        if (!isRoom(a) || !isRoom(b) || !ways(a).containsKey(b)) {
            return NONE;
        }
        laid = ways(a).get(b);
        return laid.size() - 1;
    }

    int reach(int r) {
        return isRoom(r) ? bits(ways(r).keySet()) : NONE;
    }

    int rents() {
        int sum = 0;
        for (int r = 0; r < n(); r++) {
            sum += rentOf(r);
        }
        return sum;
    }

    int harm(int r) {
        if (!isRoom(r)) {
            return NONE;
        }
        int harm = 0;
        for (int f : ownFacts(r)) {
            harm += knowers(now, f).size() - 1;
        }
        return harm;
    }

    int deaf(int f) {
        return isFact(f) ? (1 << n()) - 1 - bits(knowers(behind(240), f)) : NONE;
    }

    int gossip(int hours) {
        return hours < 0 || hours > 240 ? NONE : behind(hours).known() - now.known();
    }

    int mutual() {
        int twos = 0;
        for (int a = 0; a < n(); a++) {
            for (int b = 0; b < a; b++) {
                twos += now.sees(a, b) && now.sees(b, a) ? 1 : 0;
            }
        }
        return twos;
    }

    boolean aim(int a, int b) {
        if (!isRoom(a) || !isRoom(b)) {
            return false;
        }
        for (Map.Entry<Integer, Integer> aim : aims.entrySet()) {
            if (aim.getKey() != a && aim.getValue() == b) {
                return false;
            }
        }
        aims.put(a, b);
        return true;
    }

    boolean drop(int r) {
        return aims.remove(r) != null;
    }

    List<List<Integer>> allLots() {
        List<List<Integer>> all = new ArrayList<>();
        grow(new ArrayList<>(), all);
        return all;
    }

    private void grow(List<Integer> lot, List<List<Integer>> all) {
        if (lot.size() == n()) {
            all.add(List.copyOf(lot));
            return;
        }
        for (int r = 0; r < n(); r++) {
            if (!lot.contains(r)) {
                lot.add(r);
                grow(lot, all);
                lot.remove(lot.size() - 1);
            }
        }
    }

    boolean holdAims(List<Integer> lot) {
        for (Map.Entry<Integer, Integer> aim : aims.entrySet()) {
            if (lot.get(aim.getKey()).intValue() != aim.getValue()) {
                return false;
            }
        }
        return true;
    }

    static int before(List<Integer> a, List<Integer> b) {
        for (int i = 0; i < a.size(); i++) {
            int c = Integer.compare(a.get(i), b.get(i));
            if (c != 0) {
                return c;
            }
        }
        return 0;
    }

    // Swaps are really made, ever more of them, till the aims hold.
    int swaps() {
        Set<List<Integer>> seen = new HashSet<>();
        Set<List<Integer>> edge = new HashSet<>();
        edge.add(List.copyOf(now.windows));
        for (int count = 0; ; count++) {
            List<Integer> first = null;
            for (List<Integer> lot : edge) {
                if (holdAims(lot) && (first == null || before(lot, first) < 0)) {
                    first = lot;
                }
            }
            if (first != null) {
                laid = first;
                return count;
            }
            seen.addAll(edge);
            Set<List<Integer>> next = new HashSet<>();
            for (List<Integer> lot : edge) {
                for (int a = 0; a < n(); a++) {
                    for (int b = 0; b < a; b++) {
                        List<Integer> other = new ArrayList<>(lot);
                        swapIn(other, a, b);
                        if (!seen.contains(other)) {
                            next.add(other);
                        }
                    }
                }
            }
            edge = next;
        }
    }

    // One ring goes at a time: it is found by going on from any room that is left.
    int rings() {
        List<Integer> left = new ArrayList<>();
        Integer[] shown = new Integer[n()];
        for (int r = 0; r < n(); r++) {
            left.add(r);
        }
        while (!left.isEmpty()) {
            int at = left.get(0);
            for (int i = 0; i < 10; i++) {
                at = pointedTo(at, left);
            }
            List<Integer> gone = new ArrayList<>();
            while (!gone.contains(at)) {
                gone.add(at);
                at = pointedTo(at, left);
            }
            for (int r : gone) {
                shown[r] = now.windows.get(pointedTo(r, left));
            }
            left.removeAll(gone);
        }
        laid = List.of(shown);
        return wantsOf(laid);
    }

    int pointedTo(int r, List<Integer> left) {
        int best = left.get(0);
        for (int other : left) {
            int mine = now.windows.get(best);
            int its = now.windows.get(other);
            int c = Integer.compare(told.want(r, its), told.want(r, mine));
            if (c > 0 || c == 0 && its < mine) {
                best = other;
            }
        }
        return best;
    }

    int wantsOf(List<Integer> lot) {
        int sum = 0;
        for (int r = 0; r < n(); r++) {
            sum += told.want(r, lot.get(r));
        }
        return sum;
    }

    int best() {
        laid = allLots().get(0);
        for (List<Integer> lot : allLots()) {
            if (wantsOf(lot) > wantsOf(laid)) {
                laid = lot;
            }
        }
        return wantsOf(laid);
    }

    int odds(int least, int part) {
        if (least < 0 || least > 6 || part < 0 || part > 1) {
            return NONE;
        }
        int hits = 0;
        int all = 0;
        for (List<Integer> lot : allLots()) {
            int pleased = 0;
            for (int r = 0; r < n(); r++) {
                pleased += told.want(r, lot.get(r)) >= 1 ? 1 : 0;
            }
            all++;
            hits += pleased >= least ? 1 : 0;
        }
        int common = BigInteger.valueOf(hits).gcd(BigInteger.valueOf(all)).intValue();
        return (part == 0 ? hits : all) / common;
    }

    int fair() {
        int fair = 0;
        for (List<Integer> lot : allLots()) {
            boolean self = false;
            for (int r = 0; r < n(); r++) {
                self |= lot.get(r) == r;
            }
            fair += !self && holdAims(lot) ? 1 : 0;
        }
        return fair;
    }

    int proof(int set, int what) {
        if (set < 0 || set >= 1 << told.facts.size() || what < 0 || what > 1) {
            return NONE;
        }
        int best = NONE;
        for (int who = 0; who < 1 << n(); who++) {
            int known = 0;
            for (int r = 0; r < n(); r++) {
                known |= (who >> r & 1) == 1 ? bits(now.knows.get(r)) : 0;
            }
            boolean fewer = best == NONE || Integer.bitCount(who) < Integer.bitCount(best);
            if ((known & set) == set && fewer) {
                best = who;
            }
        }
        return best == NONE ? NONE : what == 0 ? Integer.bitCount(best) : best;
    }

    int hide(int r, int f, int what) {
        if (!isRoom(r) || !isFact(f) || what < 0 || what > 1 || now.knows.get(r).contains(f)) {
            return NONE;
        }
        int best = NONE;
        for (int set = 0; set < 1 << n(); set++) {
            boolean fewer = best == NONE || Integer.bitCount(set) < Integer.bitCount(best);
            if (Integer.bitCount(set) <= 3 && (set & bits(now.curtains)) == 0 && fewer && hides(set, r, f)) {
                best = set;
            }
        }
        return best == NONE ? NONE : what == 0 ? Integer.bitCount(best) : best;
    }

    boolean hides(int set, int r, int f) {
        State s = now.copy();
        for (int i = 0; i < n(); i++) {
            if ((set >> i & 1) == 1) {
                s.curtains.add(i);
            }
        }
        for (int i = 0; i < 120; i++) {
            pass(s);
        }
        return !s.knows.get(r).contains(f);
    }

    int lies(int i) {
        return i < 0 || i >= laid.size() ? NONE : laid.get(i);
    }

    int glimpse(int a, int b, boolean is) {
        if (!isRoom(a) || !isRoom(b) || glimpses.size() == 30) {
            return NONE;
        }
        glimpses.add(new Glimpse(a, b, is, time, new int[] {NONE}));
        return glimpses.size() - 1;
    }

    boolean untell(int i) {
        if (i < 0 || i >= glimpses.size() || glimpses.get(i).untold[0] != NONE) {
            return false;
        }
        glimpses.get(i).untold[0] = time;
        return true;
    }

    int later(int by) {
        if (by < 0 || by > 1000 || time + by > 100000) {
            return NONE;
        }
        time += by;
        return time;
    }

    List<List<Integer>> lotsAt(int k) {
        List<List<Integer>> lots = new ArrayList<>(allLots());
        for (Glimpse g : glimpses) {
            if (g.told <= k && (g.untold[0] == NONE || g.untold[0] > k)) {
                lots.removeIf(lot -> (lot.get(g.room) == g.other) != g.is);
            }
        }
        return lots;
    }

    int lots(int k) {
        return lotsAt(k).size();
    }

    int sure(int r, int k) {
        if (!isRoom(r) || lotsAt(k).isEmpty()) {
            return NONE;
        }
        Set<Integer> shown = new HashSet<>();
        for (List<Integer> lot : lotsAt(k)) {
            shown.add(lot.get(r));
        }
        return shown.size() == 1 ? shown.iterator().next() : -2;
    }

    int ask(int what, int k) {
        List<List<Integer>> lots = lotsAt(k);
        if (lots.isEmpty() || what < 0 || what > 1) {
            return NONE;
        }
        int room = NONE;
        int fewest = NONE;
        for (int r = n() - 1; r >= 0; r--) {
            int most = 0;
            for (int v = 0; v < n(); v++) {
                int left = 0;
                for (List<Integer> lot : lots) {
                    left += lot.get(r) == v ? 1 : 0;
                }
                most = Math.max(most, left);
            }
            if (room == NONE || most <= fewest) {
                room = r;
                fewest = most;
            }
        }
        return what == 0 ? room : fewest;
    }

    int image(int box) {
        if (box < 0 || box > 2) {
            return NONE;
        }
        boxes[box] = now.copy();
        return now.day;
    }

    int back(int box) {
        if (box < 0 || box > 2 || boxes[box] == null) {
            return NONE;
        }
        now = boxes[box].copy();
        done.clear();
        undone.clear();
        return now.day;
    }

    int about(int what) {
        return switch (what) {
            case 0 -> n();
            case 1 -> told.facts.size();
            case 2 -> now.hour;
            case 3 -> now.day;
            case 4 -> now.seed;
            case 5 -> told.tells.size();
            case 6 -> aims.size();
            case 7 -> done.size();
            case 8 -> undone.size();
            case 9 -> glimpses.size();
            case 10 -> time;
            case 11 -> tape.length();
            case 12 -> told.units;
            case 13 -> laid.size();
            default -> NONE;
        };
    }
}
