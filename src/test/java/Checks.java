import java.nio.charset.StandardCharsets;

/** What the tests share: putting a text on the tape, and counting wrong answers. */
final class Checks {
    private static int wrong = 0;
    private static int asked = 0;

    private Checks() {
    }

    static void due(String what, long got, long want) {
        asked++;
        if (got != want) {
            wrong++;
            System.out.println(what + " answered " + got + ", due is " + want);
        }
    }

    static void due(String what, boolean got, boolean want) {
        due(what, got ? 1 : 0, want ? 1 : 0);
    }

    static void finish(String name) {
        System.out.println(name + ": " + asked + " answers, " + wrong + " wrong");
        if (wrong != 0 || asked == 0) {
            System.exit(1);
        }
    }

    static void feed(OtherPanes x, String text) {
        byte[] bytes = text.getBytes(StandardCharsets.ISO_8859_1);
        int length = x.about(11) + bytes.length;
        for (int at = 0; at < bytes.length; at += 20) {
            x.feed(four(bytes, at), four(bytes, at + 4), four(bytes, at + 8), four(bytes, at + 12), four(bytes, at + 16));
        }
        x.end(length);
    }

    private static int four(byte[] bytes, int at) {
        int four = 0;
        for (int i = at; i < at + 4; i++) {
            four = four << 8 | (i < bytes.length ? bytes[i] & 255 : 32);
        }
        return four;
    }

    static OtherPanes quarter(String text) {
        OtherPanes x = new OtherPanes();
        feed(x, text);
        due("quarter() of " + text, x.quarter() >= 0, true);
        return x;
    }

    /** Tells a text with a fault, marked by the sign ! before its place. */
    static void fault(int kind, String marked) {
        int place = marked.indexOf('!');
        String text = marked.replace("!", "");
        OtherPanes x = new OtherPanes();
        feed(x, text);
        due("quarter() of " + marked, x.quarter(), -1);
        due("fault(0) of " + marked, x.fault(0), kind);
        due("fault(1) of " + marked, x.fault(1), place);
    }

    /** All that can be asked without doing anything, as one text. */
    static String look(OtherPanes x) {
        StringBuilder s = new StringBuilder();
        for (int what = 0; what <= 13; what++) {
            s.append(x.about(what)).append(' ');
        }
        for (int room = 0; room < x.about(0); room++) {
            for (int what = 0; what < 8; what++) {
                s.append(x.room(room, what)).append(' ');
            }
            s.append(x.sure(room, x.about(10))).append(' ').append(x.will(room, 30)).append(' ');
            for (int other = 0; other < x.about(0); other++) {
                s.append(x.wants(room, other)).append(' ');
            }
        }
        for (int fact = 0; fact < x.about(1); fact++) {
            for (int what = 0; what < 4; what++) {
                s.append(x.fact(fact, what)).append(' ');
            }
        }
        for (int i = 0; i < x.about(13); i++) {
            s.append(x.lies(i)).append(' ');
        }
        for (int hour = 0; hour < 24; hour++) {
            s.append(x.dark(hour));
        }
        s.append(' ').append(x.gossip(240)).append(' ').append(x.fair()).append(' ').append(x.lots(x.about(10))).append(' ').append(x.rents());
        return s.toString();
    }

    /** A call that answers so, and changes nothing that can be asked. */
    static void doesNothing(String call, OtherPanes x, ToInt made, int want) {
        String before = look(x);
        due(call, made.call(x), want);
        same(call + " does nothing", look(x), before);
    }

    static void answersFalse(String call, OtherPanes x, ToTruth made) {
        doesNothing(call, x, y -> made.call(y) ? 1 : 0, 0);
    }

    static void same(String what, String got, String want) {
        asked++;
        if (!got.equals(want)) {
            wrong++;
            System.out.println(what + ": it is\n  " + got + ", due is\n  " + want);
        }
    }

    interface ToInt {
        int call(OtherPanes x);
    }

    interface ToTruth {
        boolean call(OtherPanes x);
    }

    static void laid(String what, OtherPanes x, int... want) {
        due(what + ": about(13)", x.about(13), want.length);
        for (int i = 0; i < want.length; i++) {
            due(what + ": lies(" + i + ")", x.lies(i), want[i]);
        }
        due(what + ": lies behind", x.lies(want.length), -1);
        due(what + ": lies(-1)", x.lies(-1), -1);
    }
}
