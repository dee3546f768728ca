import java.util.Random;

/** Runs of calls, told by fixed seeds, on OtherPanes and on Model: each answer must be the same. */
public final class ModelTest {
    private static final int RUNS = 700;
    private static final int CALLS = 480;
    private static final String[] NAMES = {"a", "b", "c", "d", "e", "f", "g", "abcdefgh"};
    private static final String[] BITS = {"room", "joy", "curtain", "lot", "fact", "of", "at", "lamp", "tells", "wants",
        "rent", "dark", "to", "draw", "or", "and", "not", "seen", "knows", "want", "day", "self", ";", "(", ")", "<", ">",
        "=", "+", "-", "*", "/", "%", " ", "\n", "\t", "a", "b", "abcdefghi", "0", "7", "23", "24", "99", "100", "1000",
        "12345", "1a", "A", "#", "\u00ff"};

    private final Random random;
    private final OtherPanes x = new OtherPanes();
    private final Model m = new Model();
    private final int run;

    private ModelTest(int run) {
        this.run = run;
        random = new Random(run);
    }

    public static void main(String[] args) {
        for (int run = 0; run < RUNS; run++) {
            new ModelTest(run).go();
        }
        Checks.finish("ModelTest");
    }

    private void go() {
        int left = CALLS - tell();
        while (left > 0) {
            if (random.nextInt(120) == 0) {
                left -= tell();
            } else {
                call();
                left--;
            }
        }
    }

    private int any(int bound) {
        return random.nextInt(bound);
    }

    private int about(int bound) {
        int rare = any(25);
        return rare == 0 ? -1 : rare == 1 ? bound : rare == 2 ? random.nextInt() : bound == 0 ? 0 : any(bound);
    }

    private int room() {
        return about(m.n());
    }

    private int fact() {
        return about(m.told.facts.size());
    }

    private void due(String call, long got, long want) {
        Checks.due("run " + run + ": " + call, got, want);
    }

    private void due(String call, boolean got, boolean want) {
        Checks.due("run " + run + ": " + call, got, want);
    }

    /** Tells a new text: how many calls it took. */
    private int tell() {
        String text = text();
        int kind = any(4);
        for (int i = 0; i < kind - 1; i++) {
            text = spoilt(text);
        }
        if (text.length() > 1600) {
            text = text.substring(0, 1600);
        }
        due("end", x.end(0), m.end(0));
        int calls = 1;
        for (int at = 0; at < text.length(); at += 20) {
            int[] five = new int[5];
            for (int i = 0; i < 20; i++) {
                int sign = at + i < text.length() ? text.charAt(at + i) : any(256);
                five[i / 4] = five[i / 4] << 8 | sign;
            }
            due("feed", x.feed(five[0], five[1], five[2], five[3], five[4]), m.feed(five));
            calls++;
        }
        due("end", x.end(text.length()), m.end(text.length()));
        due("quarter of " + text, x.quarter(), m.quarter());
        due("fault of " + text, x.fault(0), m.fault(0));
        due("place of " + text, x.fault(1), m.fault(1));
        return calls + 4;
    }

    private String spoilt(String text) {
        int at = any(text.length() + 1);
        int to = Math.min(text.length(), at + (any(3) == 0 ? any(8) : any(2)));
        String put = any(3) == 0 ? "" : BITS[any(BITS.length)];
        return text.substring(0, at) + (any(2) == 0 ? " " : "") + put + (any(2) == 0 ? " " : "") + text.substring(to);
    }

    private String text() {
        StringBuilder s = new StringBuilder();
        int rooms = any(20) == 0 ? 0 : any(40) == 0 ? 7 : 1 + any(6);
        for (int i = 0; i < rooms; i++) {
            s.append("room ").append(NAMES[i]).append(" joy ").append(any(10)).append(any(5) == 0 ? " curtain;" : ";");
        }
        if (any(2) == 0) {
            lot(s, rooms);
        }
        int facts = rooms == 0 ? 0 : any(30) == 0 ? 11 : any(11);
        for (int i = 0; i < facts; i++) {
            s.append("fact ").append((char) ('k' + i)).append(" of ").append(NAMES[any(rooms)]).append(" at ");
            s.append(any(3) == 0 ? 23 : any(24)).append(any(3) == 0 ? " lamp;" : ";");
        }
        int twos = rooms == 0 ? 0 : any(8);
        for (int i = 0; i < twos; i++) {
            int a = any(rooms);
            int b = any(30) == 0 ? a : (a + 1 + any(rooms)) % rooms;
            boolean again = s.indexOf("tells " + NAMES[a] + " " + NAMES[b] + ";") >= 0;
            if (a != b && !again || any(40) == 0) {
                s.append("tells ").append(NAMES[a]).append(' ').append(NAMES[b]).append(";");
            }
        }
        int most = any(3) == 0 ? 3 : 100;
        for (int a = 0; a < rooms; a++) {
            for (int b = 0; b < rooms; b++) {
                if (any(2) == 0) {
                    s.append("wants ").append(NAMES[a]).append(' ').append(NAMES[b]).append(' ').append(any(most)).append(';');
                }
            }
        }
        if (any(4) != 0) {
            s.append("rent ");
            either(s, 0);
            s.append(";");
        }
        if (any(2) == 0) {
            s.append("dark ").append(any(24)).append(" to ").append(any(24)).append(";\n");
        }
        if (any(2) == 0) {
            s.append("draw ").append(any(1000)).append(";");
        }
        return s.toString();
    }

    private void lot(StringBuilder s, int rooms) {
        int[] lot = new int[rooms];
        for (int i = 0; i < rooms; i++) {
            int j = any(i + 1);
            lot[i] = lot[j];
            lot[j] = i;
        }
        s.append("lot");
        int told = any(20) == 0 ? any(rooms + 1) : rooms;
        for (int i = 0; i < told; i++) {
            s.append(' ').append(NAMES[lot[i]]);
        }
        s.append(';');
    }

    private void either(StringBuilder s, int depth) {
        both(s, depth);
        while (any(6) == 0) {
            s.append(" or ");
            both(s, depth);
        }
    }

    private void both(StringBuilder s, int depth) {
        one(s, depth);
        while (any(6) == 0) {
            s.append(" and ");
            one(s, depth);
        }
    }

    private void one(StringBuilder s, int depth) {
        int nots = any(5) == 0 ? 1 + any(any(6) == 0 ? 8 : 2) : 0;
        s.append("not ".repeat(nots));
        sum(s, depth);
        if (any(4) == 0) {
            s.append("<>=".charAt(any(3)));
            sum(s, depth);
        }
    }

    private void sum(StringBuilder s, int depth) {
        term(s, depth);
        while (any(3) == 0) {
            s.append("+-".charAt(any(2)));
            term(s, depth);
        }
    }

    private void term(StringBuilder s, int depth) {
        unit(s, depth);
        while (any(3) == 0) {
            s.append("*/%".charAt(any(3)));
            unit(s, depth);
        }
    }

    private void unit(StringBuilder s, int depth) {
        String[] units = {"joy", "seen", "knows", "want", "day", "self"};
        int kind = any(12);
        if (kind < 6) {
            s.append(units[kind]);
        } else if (kind < 9 || depth > 8) {
            s.append(any(3) == 0 ? any(10000) : any(4));
        } else {
            s.append('(');
            either(s, depth + 1);
            s.append(')');
        }
    }

    private void call() {
        int kind = any(48);
        if (kind < 24) {
            acts(kind);
        } else {
            questions(kind);
        }
    }

    private void acts(int kind) {
        int a = room();
        int b = room();
        int c = about(3);
        switch (kind) {
            case 0, 1 -> due("curtain(" + a + ")", x.curtain(a), m.curtain(a));
            case 2, 3 -> due("swap(" + a + ", " + b + ")", x.swap(a, b), m.swap(a, b));
            case 4 -> due("cast()", x.cast(), m.cast());
            case 5, 6, 7, 8, 9, 10 -> due("hour()", x.hour(), m.hour());
            case 11, 12 -> due("undo()", x.undo(), m.undo());
            case 13 -> due("redo()", x.redo(), m.redo());
            case 14, 15 -> due("aim(" + a + ", " + b + ")", x.aim(a, b), m.aim(a, b));
            case 16 -> due("drop(" + a + ")", x.drop(a), m.drop(a));
            case 17, 18 -> glimpse(a, b);
            case 19 -> untell();
            case 20, 21 -> later();
            case 22 -> due("image(" + c + ")", x.image(c), m.image(c));
            default -> due("back(" + c + ")", x.back(c), m.back(c));
        }
    }

    private void glimpse(int a, int b) {
        boolean is = any(4) == 0;
        due("glimpse(" + a + ", " + b + ", " + is + ")", x.glimpse(a, b, is), m.glimpse(a, b, is));
    }

    private void untell() {
        int g = about(m.glimpses.size());
        due("untell(" + g + ")", x.untell(g), m.untell(g));
    }

    private void later() {
        int by = any(3) == 0 ? about(1001) : any(3);
        due("later(" + by + ")", x.later(by), m.later(by));
    }

    private void questions(int kind) {
        int a = room();
        int b = room();
        int f = fact();
        int part = about(2);
        int k = any(2) == 0 ? m.time : about(m.time + 1);
        int hours = about(241);
        int w = about(14);
        switch (kind) {
            case 24 -> due("room(" + a + ", " + w + ")", x.room(a, w), m.room(a, w));
            case 25 -> due("room(" + a + ", 4)", x.room(a, 4), m.room(a, 4));
            case 26 -> due("fact(" + f + ", " + w % 5 + ")", x.fact(f, w % 5), m.fact(f, w % 5));
            case 27 -> due("wants(" + a + ", " + b + ")", x.wants(a, b), m.wants(a, b));
            case 28 -> due("dark", x.dark(hours % 25), m.dark(hours % 25));
            case 29 -> due("when(" + a + ", " + f + ")", x.when(a, f), m.when(a, f));
            case 30 -> due("will(" + a + ", " + hours + ")", x.will(a, hours), m.will(a, hours));
            case 31 -> due("word(" + a + ", " + b + ")", x.word(a, b), m.word(a, b));
            case 32 -> due("reach(" + a + ")", x.reach(a), m.reach(a));
            case 33 -> due("rents()", x.rents(), m.rents());
            case 34 -> due("harm(" + a + ")", x.harm(a), m.harm(a));
            case 35 -> due("deaf(" + f + ")", x.deaf(f), m.deaf(f));
            case 36 -> due("gossip(" + hours + ")", x.gossip(hours), m.gossip(hours));
            case 37 -> due("mutual()", x.mutual(), m.mutual());
            case 38 -> due("swaps()", x.swaps(), m.swaps());
            case 39 -> due("rings()", x.rings(), m.rings());
            case 40 -> due("best()", x.best(), m.best());
            case 41 -> due("odds", x.odds(w / 2, part), m.odds(w / 2, part));
            case 42 -> due("fair()", x.fair(), m.fair());
            case 43 -> proof(part);
            case 44 -> due("hide(" + a + ", " + f + ", " + part + ")", x.hide(a, f, part), m.hide(a, f, part));
            case 45 -> due("lots(" + k + ")", x.lots(k), m.lots(k));
            case 46 -> due("sure(" + a + ", " + k + ")", x.sure(a, k), m.sure(a, k));
            default -> due("ask(" + part + ", " + k + ")", x.ask(part, k), m.ask(part, k));
        }
        due("lies", x.lies(w / 2), m.lies(w / 2));
        due("about(" + w + ")", x.about(w), m.about(w));
        if (any(20) == 0) {
            state();
        }
    }

    private void proof(int part) {
        int set = about(1 << m.told.facts.size());
        due("proof(" + set + ", " + part + ")", x.proof(set, part), m.proof(set, part));
    }

    private void state() {
        for (int r = 0; r < m.n(); r++) {
            for (int what = 0; what < 8; what++) {
                due("room(" + r + ", " + what + ")", x.room(r, what), m.room(r, what));
            }
        }
        for (int what = 0; what < 14; what++) {
            due("about(" + what + ")", x.about(what), m.about(what));
            due("lies(" + what + ")", x.lies(what), m.lies(what));
        }
    }
}
