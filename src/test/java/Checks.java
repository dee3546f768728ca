import java.nio.charset.StandardCharsets;

/** What the tests share: putting a text on the tape, and counting wrong answers. */
final class Checks {
    private static int wrong = 0;
    private static int asked = 0;

    private Checks() {
    }

    static void due(String what, long got, long want) {
        asked++;
        if (got != want) {
            wrong++;
            System.out.println(what + " answered " + got + ", due is " + want);
        }
    }

    static void due(String what, boolean got, boolean want) {
        due(what, got ? 1 : 0, want ? 1 : 0);
    }

    static void finish(String name) {
        System.out.println(name + ": " + asked + " answers, " + wrong + " wrong");
        if (wrong != 0 || asked == 0) {
            System.exit(1);
        }
    }

    static void feed(OtherPanes x, String text) {
        byte[] bytes = text.getBytes(StandardCharsets.ISO_8859_1);
        int length = x.about(11) + bytes.length;
        for (int at = 0; at < bytes.length; at += 20) {
            x.feed(four(bytes, at), four(bytes, at + 4), four(bytes, at + 8), four(bytes, at + 12), four(bytes, at + 16));
        }
        x.end(length);
    }

    private static int four(byte[] bytes, int at) {
        int four = 0;
        for (int i = at; i < at + 4; i++) {
            four = four << 8 | (i < bytes.length ? bytes[i] & 255 : 32);
        }
        return four;
    }

    static OtherPanes quarter(String text) {
        OtherPanes x = new OtherPanes();
        feed(x, text);
        due("quarter() of " + text, x.quarter() >= 0, true);
        return x;
    }

    /** Tells a text with a fault, marked by the sign ! before its place. */
    static void fault(int kind, String marked) {
        int place = marked.indexOf('!');
        String text = marked.replace("!", "");
        OtherPanes x = new OtherPanes();
        feed(x, text);
        due("quarter() of " + marked, x.quarter(), -1);
        due("fault(0) of " + marked, x.fault(0), kind);
        due("fault(1) of " + marked, x.fault(1), place);
    }

    static void laid(String what, OtherPanes x, int... want) {
        due(what + ": about(13)", x.about(13), want.length);
        for (int i = 0; i < want.length; i++) {
            due(what + ": lies(" + i + ")", x.lies(i), want[i]);
        }
        due(what + ": lies behind", x.lies(want.length), -1);
        due(what + ": lies(-1)", x.lies(-1), -1);
    }
}
