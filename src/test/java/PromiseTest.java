/** For each promise of the document: ordinary inputs, the edges that it names, wrong inputs. */
public final class PromiseTest {
    private static final int NONE = OtherPanes.NONE;
    private static final int GAP = OtherPanes.GAP;
    private static final int MIN = Integer.MIN_VALUE;
    private static final int MAX = Integer.MAX_VALUE;

    private static final String FOUR = "room a joy 1;room b joy 2;room c joy 3;room d joy 4 curtain;";
    private static final String SIX =
        "room a joy 1;room b joy 2;room c joy 3;room d joy 4;room e joy 5;room f joy 6;";

    public static void main(String[] args) {
        newObject();
        feedAndEnd();
        quarter();
        faultsOfTokens();
        faultsOfLines();
        faultsOfFormulas();
        rooms();
        rents();
        facts();
        wants();
        dark();
        curtain();
        swap();
        cast();
        hour();
        undoAndRedo();
        whenAndWill();
        wordAndReach();
        harmDeafGossip();
        mutual();
        aims();
        swaps();
        rings();
        best();
        odds();
        fair();
        proof();
        hide();
        lies();
        glimpses();
        later();
        lotsSureAsk();
        imageAndBack();
        about();
        Checks.finish("PromiseTest");
    }

    private static void due(String what, long got, long want) {
        Checks.due(what, got, want);
    }

    private static void due(String what, boolean got, boolean want) {
        Checks.due(what, got, want);
    }

    private static OtherPanes of(String text) {
        return Checks.quarter(text);
    }

    // Promise 1
    private static void newObject() {
        OtherPanes x = new OtherPanes();
        for (int what = 0; what <= 13; what++) {
            due("new: about(" + what + ")", x.about(what), 0);
        }
        due("new: fault(0)", x.fault(0), 0);
        due("new: fault(1)", x.fault(1), NONE);
        due("new: quarter()", x.quarter(), 0);
        due("new: undo()", x.undo(), false);
        due("new: redo()", x.redo(), false);
        due("new: back(0)", x.back(0), NONE);
        due("new: lies(0)", x.lies(0), NONE);
    }

    // Promises 2 and 3
    private static void feedAndEnd() {
        OtherPanes x = new OtherPanes();
        int ro = 'r' << 24 | 'o' << 16 | 'o' << 8 | 'm';
        int blank = 32 << 24 | 32 << 16 | 32 << 8 | 32;
        due("feed", x.feed(ro, ' ' << 24 | 'z' << 16 | ' ' << 8 | 'j', 'o' << 24 | 'y' << 16 | '4' << 8 | ';', blank, blank), 20);
        due("feed: quarter()", x.quarter(), 1);
        due("feed: joy", x.room(0, 5), 4);
        due("feed: the tape is empty", x.about(11), 0);
        for (int i = 1; i <= 80; i++) {
            due("feed " + i, x.feed(blank, blank, blank, blank, blank), 20L * i);
        }
        due("feed beyond 1600", x.feed(blank, blank, blank, blank, blank), NONE);
        due("feed beyond 1600: bytes", x.about(11), 1600);
        due("end(1601)", x.end(1601), NONE);
        due("end(-1)", x.end(-1), NONE);
        due("end: bytes", x.about(11), 1600);
        due("end(1600)", x.end(1600), 1600);
        due("end(1581)", x.end(1581), 1581);
        due("feed of 19 free", x.feed(blank, blank, blank, blank, blank), NONE);
        due("end(1580)", x.end(1580), 1580);
        due("feed of 20 free", x.feed(blank, blank, blank, blank, blank), 1600);
        due("1600 blanks", x.quarter(), 0);
        due("end(0)", x.end(0), 0);
        due("end(1)", x.end(1), NONE);
        due("feed of high bytes", x.feed(-1, MIN, 255, 0, 128), 20);
        due("high bytes: quarter()", x.quarter(), NONE);
        due("high bytes: fault(0)", x.fault(0), 1);
    }

    // Promise 4
    private static void quarter() {
        OtherPanes x = of(FOUR + "fact f of a at 0;tells a b;draw 5;");
        due("later", x.later(7), 7);
        due("hour", x.hour(), 1);
        due("aim", x.aim(0, 0), true);
        due("glimpse", x.glimpse(0, 1, true), 0);
        due("image", x.image(2), 0);
        due("swaps", x.swaps(), 1);
        Checks.feed(x, "room a joy 1;room b joy");
        due("a fault: quarter()", x.quarter(), NONE);
        due("a fault: rooms stay", x.about(0), 4);
        due("a fault: the hour stays", x.about(2), 1);
        due("a fault: aims stay", x.about(6), 1);
        due("a fault: acts stay", x.about(7), 1);
        due("a fault: glimpses stay", x.about(9), 1);
        due("a fault: the tape stays", x.about(11), 23);
        due("a fault: what lies there stays", x.about(13), 4);
        due("a fault: joy stays", x.room(2, 5), 3);
        due("a fault: boxes stay", x.back(2), 0);
        x.hour();
        Checks.feed(x, " 9;");
        due("mended: quarter()", x.quarter(), 2);
        int[] about = {2, 0, 0, 0, 0, 0, 0, 0, 0, 0, 7, 0, 0, 0};
        for (int what = 0; what <= 13; what++) {
            due("mended: about(" + what + ")", x.about(what), about[what]);
        }
        due("mended: fault(0)", x.fault(0), 0);
        due("mended: fault(1)", x.fault(1), NONE);
        due("mended: back(2)", x.back(2), NONE);
        due("mended: undo()", x.undo(), false);
        due("mended: b's joy", x.room(1, 5), 9);
        due("mended: fair()", x.fair(), 1);
        due("an empty text", x.quarter(), 0);
        due("blanks and none", of("room\na\n\njoy 0009 curtain;room b joy0;lot b a;").about(0), 2);
    }

    // Promise 5, faults of tokens
    private static void faultsOfTokens() {
        Checks.fault(1, "!Room a joy 1;");
        Checks.fault(1, "!\troom a joy 1;");
        Checks.fault(1, "room a joy 1;!\r\n");
        Checks.fault(1, "room a joy 1!.");
        Checks.fault(1, "room !abcdefghi joy 1;");
        Checks.fault(1, "room a joy !12345;");
        Checks.fault(1, "room a joy !00001;");
        Checks.fault(1, "room a joy !1curtain;");
        Checks.fault(1, "room a joy !99z;");
        Checks.fault(1, "room !_ joy 1;");
        Checks.fault(1, "room a joy 1;rent 1!\u00e9;");
        Checks.fault(1, "!\u0000");
        due("eight letters", of("room abcdefgh joy 1;").about(0), 1);
        due("unlike eight letters", of("room abcdefgh joy 1;room abcdefgi joy 1;").about(0), 2);
        due("four digits", of("rent 9999;").about(12), 1);
        Checks.fault(2, "room a!1 joy 1;");
        // What end() cut off is no part of the text.
        OtherPanes x = new OtherPanes();
        Checks.feed(x, "room a joy 1curtain;");
        x.end(12);
        due("a letter behind the end", x.quarter(), NONE);
        due("a letter behind the end: fault(0)", x.fault(0), 2);
        due("a letter behind the end: fault(1)", x.fault(1), 12);
        due("fault(2)", x.fault(2), NONE);
        due("fault(-1)", x.fault(-1), NONE);
    }

    // Promise 5, faults of lines
    private static void faultsOfLines() {
        Checks.fault(2, "!hello;");
        Checks.fault(2, "!;");
        Checks.fault(2, "!5;");
        Checks.fault(2, "room!");
        Checks.fault(2, "room  !");
        Checks.fault(2, "room a joy 1!");
        Checks.fault(2, "room a joy 1  \n!");
        Checks.fault(2, "room a !1;");
        Checks.fault(2, "room a joy !x;");
        Checks.fault(2, "room a joy 1 !lamp;");
        Checks.fault(2, "room a joy 1 curtain !curtain;");
        String[] words = {"room", "joy", "curtain", "lot", "fact", "of", "at", "lamp", "tells", "wants", "rent",
            "dark", "to", "draw", "or", "and", "not", "seen", "knows", "want", "day", "self"};
        for (String word : words) {
            Checks.fault(2, "room !" + word + " joy 1;");
            Checks.fault(2, "room a joy 1;fact !" + word + " of a at 1;");
        }
        Checks.fault(4, "room a joy !10;");
        Checks.fault(3, "room a joy 1;room !a joy 10;");
        Checks.fault(2, SIX + "!room a joy 1;");
        Checks.fault(1, SIX + "!roomroomr a joy 1;");
        Checks.fault(2, "room a joy 1;lot a;!room b joy 1;");
        Checks.fault(2, "room a joy 1;lot a;!room");
        Checks.fault(2, "room a joy 1;lot a;!lot a;");
        Checks.fault(2, "room a joy 1;room b joy 1;lot a!;room c joy 1;");
        Checks.fault(2, "room a joy 1;room b joy 1;lot !;");
        Checks.fault(2, "room a joy 1;room b joy 1;lot a !joy;");
        Checks.fault(2, "lot !;");
        Checks.fault(5, "lot !a;");
        Checks.fault(3, "room a joy 1;room b joy 1;lot a !a;");
        Checks.fault(3, "room a joy 1;room b joy 1;lot b a !b;");
        Checks.fault(5, "room a joy 1;room b joy 1;lot b a !c;");
        Checks.fault(5, "room a joy 1;room b joy 1;lot b !c;");
        Checks.fault(2, "room a joy 1;room b joy 1;lot b a !5;");
        Checks.fault(3, SIX + "lot a b c d e f !a;");
        Checks.fault(5, "fact f of !a at 1;");
        Checks.fault(2, "fact f !at 1;");
        Checks.fault(4, "room a joy 1;fact f of a at !24;");
        Checks.fault(3, "room a joy 1;fact f of a at 1;fact !f of a at 2;");
        Checks.fault(2, "room a joy 1;fact f of a at 1 !curtain;");
        StringBuilder ten = new StringBuilder("room a joy 1;");
        for (char c = 'a'; c < 'k'; c++) {
            ten.append("fact ").append(c).append(" of a at 23 lamp;");
        }
        due("ten facts", of(ten.toString()).about(1), 10);
        Checks.fault(2, ten + "!fact a of a at 1;");
        Checks.fault(5, "room a joy 1;tells !b a;");
        Checks.fault(5, "room a joy 1;tells a !b;");
        Checks.fault(3, "room a joy 1;tells a !a;");
        Checks.fault(3, "room a joy 1;room b joy 1;tells a b;tells b a;tells a !b;");
        Checks.fault(3, "room a joy 1;wants a a 0;wants a !a 1;");
        Checks.fault(5, "room a joy 1;wants a !b 1;");
        Checks.fault(5, "room a joy 1;wants !b a 1;");
        Checks.fault(4, "room a joy 1;wants a a !100;");
        Checks.fault(2, "room a joy 1;wants a a!;");
        Checks.fault(4, "dark !24 to 1;");
        Checks.fault(4, "dark 1 to !24;");
        Checks.fault(2, "dark 1!;");
        Checks.fault(2, "dark 0 to 0;!dark 1 to 2;");
        Checks.fault(4, "draw !1000;");
        Checks.fault(2, "draw 0;!draw 1000;");
        Checks.fault(2, "draw !;");
        Checks.fault(2, "draw 1 !2;");
    }

    // Promise 5, faults of the rent's formula
    private static void faultsOfFormulas() {
        Checks.fault(2, "rent !;");
        Checks.fault(2, "rent!");
        Checks.fault(2, "rent 1;!rent 1;");
        Checks.fault(2, "rent 1 !2;");
        Checks.fault(2, "rent 1 +!;");
        Checks.fault(2, "rent !-1;");
        Checks.fault(2, "rent (1!;");
        Checks.fault(2, "rent (!);");
        Checks.fault(2, "rent 1!);");
        Checks.fault(2, "rent 1 < 2 !< 3;");
        Checks.fault(2, "rent 1 < !not 2;");
        Checks.fault(2, "rent 1 + !not 2;");
        Checks.fault(2, "rent !and 1;");
        Checks.fault(2, "rent 1 or !or 1;");
        Checks.fault(2, "rent !room;");
        Checks.fault(2, "rent !a;");
        Checks.fault(1, "rent 1 !& 1;");
        String thirty = "rent 1" + "+1".repeat(29);
        due("30 units", of(thirty + ";").about(12), 30);
        Checks.fault(2, thirty + "+!1;");
        Checks.fault(2, thirty + "+!(1);");
        Checks.fault(2, thirty + " and not !1;");
        Checks.fault(2, thirty + "+!;");
        Checks.fault(1, thirty + "+!#");
        Checks.fault(2, "rent (1" + "+1".repeat(28) + ")+!1;");
        due("units ( e ) count", of("rent ((1)+joy)*self;").about(12), 5);
        due("7 deep", of("rent (((((((1)))))));").about(12), 8);
        Checks.fault(2, "rent (((((((!(1))))))));");
        due("7 nots", of("rent not not not not not not not 1;").about(12), 1);
        Checks.fault(2, "rent not not not not not not not !not 1;");
        due("nots and units", of("rent not(not(not(not 1)));").about(12), 4);
        Checks.fault(2, "rent not(not(not(not !(1))));");
        due("one behind another", of("rent (((((((1)))))))+(((((((1)))))));").about(12), 16);
        String nots = "not not not not not not not 1";
        due("many nots", of("rent " + nots + (" and " + nots).repeat(29) + ";").about(12), 30);
    }

    // Promise 6
    private static void rooms() {
        OtherPanes x = of(FOUR + "lot b a d c;fact f of b at 0;fact g of d at 0;fact h of b at 3;");
        int[][] want = {
            {1, 1, 0, 0, 0, 1, 0, 1},
            {0, 0, 0, 5, 0, 2, 5, 1},
            {3, 3, 0, 0, 0, 3, 0, 0},
            {2, 2, 1, 2, 0, 4, 2, 1},
        };
        for (int room = 0; room < 4; room++) {
            for (int what = 0; what < 8; what++) {
                due("room(" + room + ", " + what + ")", x.room(room, what), want[room][what]);
            }
            due("room(.., 8)", x.room(room, 8), GAP);
            due("room(.., -1)", x.room(room, -1), GAP);
        }
        due("room(4, 0)", x.room(4, 0), GAP);
        due("room(-1, 0)", x.room(-1, 0), GAP);
        due("room(MIN, MIN)", x.room(MIN, MIN), GAP);
        x.hour();
        due("a knows f", x.room(0, 3), 1);
        due("c does not see d", x.room(2, 3), 0);
        OtherPanes one = of("room a joy 3;");
        due("one room shows itself", one.room(0, 0), 0);
        due("one room sees itself", one.room(0, 7), 1);
        one.curtain(0);
        due("behind its own curtain", one.room(0, 7), 0);
        OtherPanes next = of("room a joy 3;room b joy 3;room c joy 3;");
        due("the next one", next.room(0, 0), 1);
        due("the last the first", next.room(2, 0), 0);
        due("whose window", next.room(0, 1), 2);
    }

    private static int rent(String e) {
        return of("room a joy 7;room b joy 4 curtain;lot b a;fact f of a at 0;wants a b 9;rent " + e + ";").room(0, 4);
    }

    // Promises 6 (RENT) and 20
    private static void rents() {
        due("not told", of("room a joy 7;").room(0, 4), 0);
        due("joy", rent("joy"), 4);
        due("seen", rent("seen"), 1);
        due("knows", rent("knows"), 1);
        due("want", rent("want"), 9);
        due("day", rent("day"), 0);
        due("self", rent("self"), 0);
        due("1+2*3", rent("1+2*3"), 7);
        due("(1+2)*3", rent("(1+2)*3"), 9);
        due("10-3-2", rent("10-3-2"), 5);
        due("100/7/2", rent("100/7/2"), 7);
        due("100%7*2", rent("100%7*2"), 4);
        due("(0-7)/2", rent("(0-7)/2"), -3);
        due("(0-7)%2", rent("(0-7)%2"), -1);
        due("5/0", rent("5/0"), 0);
        due("5%0", rent("5%0"), 0);
        due("5%(1-1)+2", rent("5%(1-1)+2"), 2);
        due("1<2", rent("1<2"), 1);
        due("2<2", rent("2<2"), 0);
        due("2>1", rent("2>1"), 1);
        due("2>2", rent("2>2"), 0);
        due("2=2", rent("2=2"), 1);
        due("2=3", rent("2=3"), 0);
        due("1+1=2", rent("1+1=2"), 1);
        due("5 and 7", rent("5 and 7"), 1);
        due("5 and 0", rent("5 and 0"), 0);
        due("0 or 7", rent("0 or 7"), 1);
        due("0 or 0", rent("0 or 0"), 0);
        due("1 or 0 and 0", rent("1 or 0 and 0"), 1);
        due("(1 or 0) and 0", rent("(1 or 0) and 0"), 0);
        due("not 5", rent("not 5"), 0);
        due("not 0", rent("not 0"), 1);
        due("not not 5", rent("not not 5"), 1);
        due("not 1 < 2", rent("not 1 < 2"), 0);
        due("not 1 and 0", rent("not 1 and 0"), 0);
        due("not 0 or 0", rent("not 0 or 0"), 1);
        due("(not 0)+1", rent("(not 0)+1"), 2);
        due("0 and 1 or 1", rent("0 and 1 or 1"), 1);
        due("wraps", rent("9999*9999*9999"), 9999 * 9999 * 9999);
        due("wraps below", rent("0-9999*9999*99-9999*9999"), 0 - 9999 * 9999 * 99 - 9999 * 9999);
        // 2^31 wraps to the least int: by -1 it wraps again, and its rest is 0.
        due("the least by -1", rent("1024*1024*2048/(0-1)"), MIN);
        due("the least rest", rent("1024*1024*2048%(0-1)"), 0);
        OtherPanes x = of("room a joy 1;room b joy 2 curtain;lot a b;rent self*100+seen*10+joy+day*1000;");
        due("rent of a", x.room(0, 4), 111);
        due("rent of b", x.room(1, 4), 102);
        due("rents", x.rents(), 213);
        x.swap(0, 1);
        due("rents swapped", x.rents(), 12 + 1);
        for (int i = 0; i < 24; i++) {
            x.hour();
        }
        due("rents a day later", x.rents(), 2013);
        due("rents wrap", of("room a joy 1;room b joy 1;rent 2047*1024*1024;").rents(), 2047 * 1024 * 1024 * 2);
        due("rents of none", of("rent 5;").rents(), 0);
    }

    // Promise 7
    private static void facts() {
        OtherPanes x = of("room a joy 1;room b joy 1;fact a of b at 23 lamp;fact b of a at 0;");
        int[][] want = {{1, 23, 1, 2}, {0, 0, 0, 1}};
        for (int fact = 0; fact < 2; fact++) {
            for (int what = 0; what < 4; what++) {
                due("fact(" + fact + ", " + what + ")", x.fact(fact, what), want[fact][what]);
            }
            due("fact(.., 4)", x.fact(fact, 4), NONE);
            due("fact(.., -1)", x.fact(fact, -1), NONE);
        }
        due("fact(2, 0)", x.fact(2, 0), NONE);
        due("fact(-1, 0)", x.fact(-1, 0), NONE);
        x.hour();
        due("both know b", x.fact(1, 3), 3);
    }

    // Promise 8
    private static void wants() {
        OtherPanes x = of("room a joy 1;room b joy 1;wants a b 99;wants b b 0;wants b a 5;");
        due("wants(0, 1)", x.wants(0, 1), 99);
        due("wants(1, 0)", x.wants(1, 0), 5);
        due("wants(1, 1)", x.wants(1, 1), 0);
        due("wants(0, 0)", x.wants(0, 0), 0);
        due("wants(0, 2)", x.wants(0, 2), NONE);
        due("wants(2, 0)", x.wants(2, 0), NONE);
        due("wants(-1, 0)", x.wants(-1, 0), NONE);
        due("wants(0, -1)", x.wants(0, -1), NONE);
    }

    // Promise 9
    private static void dark() {
        String[] texts = {"", "dark 5 to 5;", "dark 0 to 23;", "dark 6 to 5;", "dark 22 to 1;", "dark 3 to 7;"};
        String[] want = {
            "000000000000000000000000", "000001000000000000000000", "111111111111111111111111",
            "111111111111111111111111", "110000000000000000000011", "000111110000000000000000"};
        for (int i = 0; i < texts.length; i++) {
            OtherPanes x = of(texts[i]);
            for (int hour = 0; hour < 24; hour++) {
                due(texts[i] + " dark(" + hour + ")", x.dark(hour), want[i].charAt(hour) - '0');
            }
            due(texts[i] + " dark(24)", x.dark(24), NONE);
            due(texts[i] + " dark(-1)", x.dark(-1), NONE);
        }
    }

    // Promise 10
    private static void curtain() {
        OtherPanes x = of("room a joy 1;room b joy 1 curtain;");
        due("curtain(0)", x.curtain(0), 1);
        due("drawn", x.room(0, 2), 1);
        due("curtain(1)", x.curtain(1), 0);
        due("not drawn", x.room(1, 2), 0);
        due("curtain(0) again", x.curtain(0), 0);
        due("curtain(2)", x.curtain(2), NONE);
        due("curtain(-1)", x.curtain(-1), NONE);
        due("curtain(32)", x.curtain(32), NONE);
        due("acts", x.about(7), 3);
    }

    // Promise 11
    private static void swap() {
        OtherPanes x = of("room a joy 1;room b joy 1;room c joy 1;");
        due("swap(0, 2)", x.swap(0, 2), 0);
        due("a", x.room(0, 0), 0);
        due("c", x.room(2, 0), 1);
        due("swap(2, 1)", x.swap(2, 1), 2);
        due("b", x.room(1, 0), 1);
        due("swap(1, 1)", x.swap(1, 1), NONE);
        due("swap(3, 0)", x.swap(3, 0), NONE);
        due("swap(0, 3)", x.swap(0, 3), NONE);
        due("swap(-1, 0)", x.swap(-1, 0), NONE);
        due("acts", x.about(7), 2);
    }

    // Promise 12
    private static void cast() {
        OtherPanes x = of("room a joy 1;room b joy 1;room c joy 1;draw 999;");
        // 999 * 137 + 71 = 136934: 934 % 3 = 1, then 934 * 137 + 71 = 128029: 29 % 2 = 1
        due("cast()", x.cast(), 1);
        due("seed", x.about(4), 29);
        due("a", x.room(0, 0), 1);
        due("b", x.room(1, 0), 0);
        due("c", x.room(2, 0), 2);
        // 29 * 137 + 71 = 4044: 44 % 3 = 2, then 44 * 137 + 71 = 6099: 99 % 2 = 1
        due("cast() again", x.cast(), 1);
        due("seed again", x.about(4), 99);
        due("acts", x.about(7), 2);
        x.undo();
        due("seed undone", x.about(4), 29);
        OtherPanes one = of("room a joy 1;draw 8;");
        due("cast() of one", one.cast(), 1);
        due("seed of one", one.about(4), 8);
        due("acts of one", one.about(7), 1);
    }

    // Promise 13
    private static void hour() {
        OtherPanes x = of("room a joy 1;room b joy 1;room c joy 1;room d joy 1;lot b c d a;"
            + "fact f of b at 23;fact g of c at 23 lamp;fact h of d at 0;fact i of a at 0 lamp;"
            + "tells a d;tells d c;tells c b;dark 0 to 0;");
        // In the dark a lamp alone is seen: d sees i.
        due("hour 0", x.hour(), 1);
        due("d", x.room(3, 3), 8 + 4);
        for (int i = 1; i < 23; i++) {
            due("hour " + i, x.hour(), 0);
        }
        due("HOUR 23", x.about(2), 23);
        // a learns f, b learns g; then at the well, all by what they know then:
        // d hears f and i of a, c hears h and i of d, b hears g (known) of c.
        due("hour 23", x.hour(), 2 + 3);
        due("HOUR 0", x.about(2), 0);
        due("day 1", x.about(3), 1);
        due("a", x.room(0, 3), 8 + 1);
        due("b", x.room(1, 3), 1 + 2);
        due("c", x.room(2, 3), 2 + 4 + 8);
        due("d", x.room(3, 3), 4 + 8 + 1);
        due("acts", x.about(7), 24);
        x.curtain(0);
        for (int i = 0; i < 24; i++) {
            x.hour();
        }
        due("day 2", x.about(3), 2);
        due("b a day later", x.room(1, 3), 1 + 2 + 4 + 8);
        // Far beyond an object's 512 calls, so not promised, but the rule holds there, too.
        OtherPanes old = of("");
        for (int i = 0; i < 24000; i++) {
            old.hour();
        }
        due("day 1000", old.about(3), 1000);
        due("no hour behind day 999", old.hour(), NONE);
        due("HOUR of day 1000", old.about(2), 0);
        old.undo();
        due("the last hour", old.hour(), 0);
        OtherPanes hidden = of("room a joy 1;room b joy 1 curtain;fact f of b at 0;fact g of a at 0;");
        due("behind a curtain: a sees nothing, b sees a", hidden.hour(), 1);
        due("b", hidden.room(1, 3), 3);
        due("a", hidden.room(0, 3), 2);
    }

    // Promises 14 and 15
    private static void undoAndRedo() {
        OtherPanes x = of("room a joy 1;room b joy 1;fact f of b at 0;draw 1;");
        due("undo of none", x.undo(), false);
        x.curtain(0);
        x.swap(0, 1);
        x.hour();
        x.cast();
        due("undo a cast", x.undo(), true);
        due("seed", x.about(4), 1);
        due("undo an hour", x.undo(), true);
        due("HOUR", x.about(2), 0);
        due("undo a swap", x.undo(), true);
        due("a shows b", x.room(0, 0), 1);
        due("about(7)", x.about(7), 1);
        due("about(8)", x.about(8), 3);
        due("redo a swap", x.redo(), true);
        due("a shows a", x.room(0, 0), 0);
        due("redo an hour", x.redo(), true);
        due("HOUR again", x.about(2), 1);
        due("a call that does nothing keeps redo", x.swap(0, 0), NONE);
        due("about(8)", x.about(8), 1);
        x.curtain(0);
        due("redo behind an act", x.redo(), false);
        due("about(7)", x.about(7), 4);
        due("about(8)", x.about(8), 0);
        due("undo the curtain", x.undo(), true);
        due("a's curtain", x.room(0, 2), 1);
        OtherPanes many = of("room a joy 1;");
        for (int i = 0; i < 45; i++) {
            many.hour();
        }
        due("40 are kept", many.about(7), 40);
        for (int i = 0; i < 40; i++) {
            due("undo " + i, many.undo(), true);
        }
        due("undo of the 41st", many.undo(), false);
        due("the oldest are gone", many.about(2), 5);
        due("redone at most", many.about(8), 40);
        for (int i = 0; i < 40; i++) {
            due("redo " + i, many.redo(), true);
        }
        due("redo of the 41st", many.redo(), false);
        due("HOUR 21", many.about(2), 21);
        due("day 1", many.about(3), 1);
    }

    // Promises 16 and 17
    private static void whenAndWill() {
        OtherPanes x = of("room a joy 1;room b joy 1;room c joy 1;room d joy 1;lot b a d c;"
            + "fact f of a at 5;fact g of d at 0;tells b c;tells c d;");
        due("when it knows", x.when(0, 0), 0);
        due("when it sees", x.when(1, 0), 6);
        due("when it hears", x.when(2, 0), 24);
        due("when it hears a day later", x.when(3, 0), 48);
        due("when never", x.when(0, 1), NONE);
        due("when(4, 0)", x.when(4, 0), NONE);
        due("when(0, 2)", x.when(0, 2), NONE);
        due("when(-1, 0)", x.when(-1, 0), NONE);
        due("when(0, -1)", x.when(0, -1), NONE);
        due("will(1, 0)", x.will(1, 0), 0);
        due("will(1, 5)", x.will(1, 5), 0);
        due("will(1, 6)", x.will(1, 6), 1);
        due("will(3, 47)", x.will(3, 47), 2);
        due("will(3, 48)", x.will(3, 48), 3);
        due("will(3, 240)", x.will(3, 240), 3);
        due("will(3, 241)", x.will(3, 241), NONE);
        due("will(3, -1)", x.will(3, -1), NONE);
        due("will(4, 0)", x.will(4, 0), NONE);
        due("nothing is done", x.about(2) + x.about(3) + x.about(7), 0);
        // The first well comes behind 1 hour here: the tenth one behind 217, none behind 241.
        OtherPanes late = of("room a joy 1 curtain;room b joy 1;fact f of a at 0;tells a b;");
        due("the well of day 1", late.when(1, 0), 24);
        for (int i = 0; i < 23; i++) {
            late.hour();
        }
        due("the next hour", late.when(1, 0), 1);
    }

    // Promises 18 and 19
    private static void wordAndReach() {
        // a shows b, b shows c, c shows a; d shows d; word goes a to c to b to a.
        OtherPanes x = of(FOUR + "lot b c a d;");
        due("word(0, 2)", x.word(0, 2), 1);
        Checks.laid("word(0, 2)", x, 0, 2);
        due("word(0, 1)", x.word(0, 1), 2);
        Checks.laid("word(0, 1)", x, 0, 2, 1);
        due("word(1, 1)", x.word(1, 1), 0);
        Checks.laid("word(1, 1)", x, 1);
        due("word(0, 3)", x.word(0, 3), NONE);
        Checks.laid("word(0, 3)", x);
        x.word(0, 1);
        due("word(0, 4)", x.word(0, 4), NONE);
        Checks.laid("word(0, 4)", x);
        x.word(0, 1);
        due("word(-1, 0)", x.word(-1, 0), NONE);
        Checks.laid("word(-1, 0)", x);
        due("word(3, 3)", x.word(3, 3), 0);
        due("reach(0)", x.reach(0), 7);
        due("reach(3)", x.reach(3), 8);
        x.curtain(2);
        due("nobody sees c: word(0, 1)", x.word(0, 1), NONE);
        due("nobody sees c: word(0, 2)", x.word(0, 2), 1);
        due("nobody sees c: word(1, 2)", x.word(1, 2), 2);
        due("reach(0)", x.reach(0), 5);
        due("reach(1)", x.reach(1), 7);
        due("reach(2)", x.reach(2), 4);
        due("reach(4)", x.reach(4), NONE);
        due("reach(-1)", x.reach(-1), NONE);
        OtherPanes six = of(SIX);
        due("six", six.word(0, 1), 5);
        Checks.laid("six", six, 0, 5, 4, 3, 2, 1);
    }

    // Promises 21, 22 and 23
    private static void harmDeafGossip() {
        OtherPanes x = of("room a joy 1;room b joy 1;room c joy 1;lot c a b;"
            + "fact f of a at 0;fact g of a at 1;fact h of c at 0;tells b c;");
        due("harm at first", x.harm(0), 0);
        x.hour();
        x.hour();
        due("harm by b", x.harm(0), 2);
        due("harm of c by a", x.harm(2), 1);
        due("harm(3)", x.harm(3), NONE);
        due("harm(-1)", x.harm(-1), NONE);
        due("gossip(0)", x.gossip(0), 0);
        due("gossip(21)", x.gossip(21), 0);
        due("gossip(22)", x.gossip(22), 2);
        due("gossip(240)", x.gossip(240), 2);
        due("gossip(-1)", x.gossip(-1), NONE);
        due("gossip(241)", x.gossip(241), NONE);
        due("deaf(0)", x.deaf(0), 0);
        due("deaf(2)", x.deaf(2), 2);
        due("deaf(3)", x.deaf(3), NONE);
        due("deaf(-1)", x.deaf(-1), NONE);
        due("nothing is done", x.about(2), 2);
        for (int i = 0; i < 22; i++) {
            x.hour();
        }
        due("harm by b and c", x.harm(0), 4);
    }

    // Promise 24
    private static void mutual() {
        OtherPanes x = of("room a joy 1;room b joy 1;room c joy 1;room d joy 1;room e joy 1;lot b a d c e;");
        due("two twos", x.mutual(), 2);
        x.curtain(3);
        due("a curtain", x.mutual(), 1);
        x.curtain(4);
        due("itself is none", x.mutual(), 1);
        x.swap(0, 2);
        due("a ring of four", x.mutual(), 0);
    }

    // Promises 25 and 26
    private static void aims() {
        OtherPanes x = of("room a joy 1;room b joy 1;room c joy 1;");
        due("aim(0, 0)", x.aim(0, 0), true);
        due("aim(0, 0) again", x.aim(0, 0), true);
        due("aim(1, 0)", x.aim(1, 0), false);
        due("aim(0, 2)", x.aim(0, 2), true);
        due("aim(1, 0) then", x.aim(1, 0), true);
        due("aim(0, 0) then", x.aim(0, 0), false);
        due("aims", x.about(6), 2);
        due("aim(3, 1)", x.aim(3, 1), false);
        due("aim(2, 3)", x.aim(2, 3), false);
        due("aim(-1, 1)", x.aim(-1, 1), false);
        due("aim(2, -1)", x.aim(2, -1), false);
        due("drop(2)", x.drop(2), false);
        due("drop(3)", x.drop(3), false);
        due("drop(-1)", x.drop(-1), false);
        due("drop(0)", x.drop(0), true);
        due("drop(0) again", x.drop(0), false);
        due("aims", x.about(6), 1);
        x.hour();
        x.undo();
        due("undo leaves aims", x.about(6), 1);
        due("aims are no acts", x.about(7), 0);
    }

    // Promise 27
    private static void swaps() {
        OtherPanes x = of("room a joy 1;room b joy 1;room c joy 1;room d joy 1;");
        due("no aims", x.swaps(), 0);
        Checks.laid("no aims", x, 1, 2, 3, 0);
        x.aim(0, 0);
        due("one aim", x.swaps(), 1);
        Checks.laid("one aim", x, 0, 2, 3, 1);
        x.aim(1, 1);
        // Two swaps do: a's and d's windows, then b's and d's.
        due("two aims", x.swaps(), 2);
        Checks.laid("two aims", x, 0, 1, 3, 2);
        x.aim(2, 2);
        due("three aims", x.swaps(), 3);
        Checks.laid("three aims", x, 0, 1, 2, 3);
        due("nothing is done", x.room(0, 0), 1);
        OtherPanes y = of("room a joy 1;room b joy 1;room c joy 1;room d joy 1;lot a b c d;");
        y.aim(3, 0);
        due("a swap", y.swaps(), 1);
        Checks.laid("a swap", y, 3, 1, 2, 0);
        y.aim(1, 2);
        due("two rings", y.swaps(), 2);
        Checks.laid("two rings", y, 3, 2, 1, 0);
    }

    // Promise 28
    private static void rings() {
        OtherPanes x = of("room a joy 1;room b joy 1;room c joy 1;room d joy 1;lot a b c d;"
            + "wants a b 5;wants b a 3;wants c a 9;wants c d 1;wants d d 7;");
        due("rings", x.rings(), 5 + 3 + 7);
        Checks.laid("rings", x, 1, 0, 2, 3);
        // What c wants most is gone in the first round, and d in it, too; c keeps c.
        OtherPanes like = of("room a joy 1;room b joy 1;room c joy 1;lot c b a;");
        due("of like ones the lowest shown", like.rings(), 0);
        // All point to the one that shows a, which is c: c keeps a; then a and b point to b's: b keeps b.
        Checks.laid("of like ones the lowest shown", like, 2, 1, 0);
        OtherPanes three = of("room a joy 1;room b joy 1;room c joy 1;lot a b c;"
            + "wants a b 2;wants b c 2;wants c a 2;wants a c 1;");
        due("a ring of three", three.rings(), 6);
        Checks.laid("a ring of three", three, 1, 2, 0);
        due("none", of("").rings(), 0);
    }

    // Promise 29
    private static void best() {
        OtherPanes x = of("room a joy 1;room b joy 1;room c joy 1;wants a a 3;wants a b 2;wants b a 2;wants c c 0;");
        due("best", x.best(), 4);
        Checks.laid("best", x, 1, 0, 2);
        OtherPanes like = of("room a joy 1;room b joy 1;room c joy 1;");
        due("like ones", like.best(), 0);
        Checks.laid("like ones", like, 0, 1, 2);
        like.aim(0, 2);
        due("aims do not count", like.best(), 0);
        Checks.laid("aims do not count", like, 0, 1, 2);
    }

    // Promise 30
    private static void odds() {
        OtherPanes x = of("room a joy 1;room b joy 1;room c joy 1;wants a a 1;wants a b 1;wants b b 1;wants c c 0;");
        // Lots: abc 2, acb 1, bac 1, bca 1, cab 0, cba 1.
        int[][] want = {{1, 1}, {5, 6}, {1, 6}, {0, 1}, {0, 1}, {0, 1}, {0, 1}};
        for (int n = 0; n <= 6; n++) {
            due("odds(" + n + ", 0)", x.odds(n, 0), want[n][0]);
            due("odds(" + n + ", 1)", x.odds(n, 1), want[n][1]);
        }
        due("odds(7, 0)", x.odds(7, 0), NONE);
        due("odds(-1, 0)", x.odds(-1, 0), NONE);
        due("odds(1, 2)", x.odds(1, 2), NONE);
        due("odds(1, -1)", x.odds(1, -1), NONE);
        OtherPanes six = of(SIX + "wants a a 1;wants b b 1;wants c c 1;wants d d 1;wants e e 1;wants f f 1;");
        due("all of six", six.odds(6, 1), 720);
        due("one of six: 455 of 720", six.odds(1, 0), 91);
        due("one of six: 455 of 720", six.odds(1, 1), 144);
    }

    // Promise 31
    private static void fair() {
        int[] want = {1, 0, 1, 2, 9, 44, 265};
        for (int rooms = 0; rooms <= 6; rooms++) {
            due("fair of " + rooms, of(SIX.substring(0, 13 * rooms)).fair(), want[rooms]);
        }
        OtherPanes x = of(SIX.substring(0, 52));
        x.aim(0, 1);
        due("with an aim", x.fair(), 3);
        x.aim(2, 2);
        due("itself aimed at", x.fair(), 0);
    }

    // Promise 32
    private static void proof() {
        OtherPanes x = of("room a joy 1;room b joy 1;room c joy 1;"
            + "fact f of a at 0;fact g of b at 0;fact h of b at 1;fact i of c at 1;");
        due("nothing", x.proof(0, 0), 0);
        due("nothing: who", x.proof(0, 1), 0);
        due("f", x.proof(1, 1), 1);
        due("g h", x.proof(6, 0), 1);
        due("g h: who", x.proof(6, 1), 2);
        due("f i", x.proof(9, 0), 2);
        due("f i: who", x.proof(9, 1), 5);
        due("all", x.proof(15, 0), 3);
        due("another what", x.proof(1, 2), NONE);
        due("another what", x.proof(1, -1), NONE);
        due("no such fact", x.proof(16, 0), NONE);
        due("below 0", x.proof(-1, 0), NONE);
        due("least int", x.proof(MIN, 0), NONE);
        x.hour();
        // a sees b and knows f, g; c sees a and knows f, i.
        due("f g", x.proof(3, 1), 1);
        due("f i", x.proof(9, 1), 4);
        due("f: the least set", x.proof(1, 1), 1);
        due("g h i", x.proof(14, 1), 6);
    }

    // Promise 33
    private static void hide() {
        // b sees a; b tells c; d sees c.
        OtherPanes x = of(FOUR + "lot d a b c;fact f of a at 3;fact g of c at 1;tells b c;");
        due("from c: a's curtain", x.hide(2, 0, 0), 1);
        due("from c: a's curtain", x.hide(2, 0, 1), 1);
        due("from d: none needed", x.hide(3, 0, 0), 0);
        due("from d: none needed", x.hide(3, 0, 1), 0);
        due("from d: c's", x.hide(3, 1, 1), 4);
        due("its own", x.hide(0, 0, 0), NONE);
        due("no such room", x.hide(4, 0, 0), NONE);
        due("no such room", x.hide(-1, 0, 0), NONE);
        due("no such fact", x.hide(1, 2, 0), NONE);
        due("no such fact", x.hide(1, -1, 0), NONE);
        due("another what", x.hide(1, 0, 2), NONE);
        due("another what", x.hide(1, 0, -1), NONE);
        due("nothing is done", x.room(0, 2), 0);
        for (int i = 0; i < 4; i++) {
            x.hour();
        }
        due("b tells it", x.hide(2, 0, 0), NONE);
        due("b knows it", x.hide(1, 0, 0), NONE);
        // Five wells are within 120 hours, the sixth is not.
        String chain = SIX + "lot a b c d e f;fact f of a at 0;"
            + "tells a b;tells b c;tells c d;tells d e;tells e f;";
        OtherPanes five = of(chain);
        due("the fifth well", five.when(5, 0), 120);
        due("the fifth well is within 120 hours", five.hide(5, 0, 0), NONE);
        OtherPanes six = of(chain.replace("fact f of a at 0;", "fact f of a at 0;fact g of b at 0;")
            .replace("tells a b;", "").replace("lot a b c d e f;", "lot a b f c d e;").replace("tells b c;", "tells b a;tells a c;"));
        due("four and one more well", six.when(5, 1), 120);
        // f sees e, who has nothing to show; a curtain can't stop who tells.
        due("told by wells alone", six.hide(5, 1, 0), NONE);
        OtherPanes three = of(SIX + "lot b a d c f e;fact k of b at 1;fact l of d at 1;tells a c;");
        due("a sees b, and would tell c", three.hide(2, 0, 1), 2);
        due("b's curtain is drawn", three.curtain(1), 1);
        due("none is needed then", three.hide(2, 0, 0), 0);
        // Three ways to c, each by another's window, and only the fact's own room to close.
        due("c sees d", three.hide(2, 1, 1), 8);
    }

    // Promise 34
    private static void lies() {
        OtherPanes x = of("room a joy 1;room b joy 1;");
        Checks.laid("nothing", x);
        x.best();
        Checks.laid("best", x, 0, 1);
        x.hour();
        Checks.laid("an hour leaves it", x, 0, 1);
        x.rings();
        Checks.laid("rings", x, 1, 0);
        due("lies(MAX)", x.lies(MAX), NONE);
        due("lies(MIN)", x.lies(MIN), NONE);
    }

    // Promises 35 and 36
    private static void glimpses() {
        OtherPanes x = of("room a joy 1;room b joy 1;");
        due("glimpse(2, 0)", x.glimpse(2, 0, true), NONE);
        due("glimpse(0, 2)", x.glimpse(0, 2, true), NONE);
        due("glimpse(-1, 0)", x.glimpse(-1, 0, true), NONE);
        due("glimpse(0, -1)", x.glimpse(0, -1, false), NONE);
        due("glimpses", x.about(9), 0);
        for (int i = 0; i < 30; i++) {
            due("glimpse " + i, x.glimpse(i % 2, 1, i % 2 == 1), i);
        }
        due("the 31st", x.glimpse(0, 0, true), NONE);
        due("glimpses", x.about(9), 30);
        due("untell(29)", x.untell(29), true);
        due("untell(29) again", x.untell(29), false);
        due("untell(30)", x.untell(30), false);
        due("untell(-1)", x.untell(-1), false);
        due("untold ones stay", x.about(9), 30);
        due("still 30", x.glimpse(0, 0, true), NONE);
        due("no act", x.about(7), 0);
    }

    // Promise 37
    private static void later() {
        OtherPanes x = new OtherPanes();
        due("later(0)", x.later(0), 0);
        due("later(1001)", x.later(1001), NONE);
        due("later(-1)", x.later(-1), NONE);
        due("later(MAX)", x.later(MAX), NONE);
        for (int i = 1; i <= 99; i++) {
            due("later(1000)", x.later(1000), 1000L * i);
        }
        due("later(999)", x.later(999), 99999);
        due("later(2)", x.later(2), NONE);
        due("later(1)", x.later(1), 100000);
        due("later(1) more", x.later(1), NONE);
        due("later(0)", x.later(0), 100000);
        due("the TIME", x.about(10), 100000);
    }

    // Promises 38, 39 and 40
    private static void lotsSureAsk() {
        OtherPanes x = of("room a joy 1;room b joy 1;room c joy 1;room d joy 1;");
        due("lots", x.lots(0), 24);
        due("ask", x.ask(0, 0), 0);
        due("ask: left", x.ask(1, 0), 6);
        due("sure of none", x.sure(0, 0), -2);
        x.later(5);
        int isB = x.glimpse(0, 1, true);
        x.later(5);
        int notC = x.glimpse(1, 2, false);
        int notA = x.glimpse(1, 0, false);
        due("before", x.lots(4), 24);
        due("at 5", x.lots(5), 6);
        due("at 9", x.lots(9), 6);
        due("at 10", x.lots(10), 2);
        due("sure of a", x.sure(0, 5), 1);
        due("sure of a before", x.sure(0, 4), -2);
        due("sure of b", x.sure(1, 10), 3);
        due("sure of c", x.sure(2, 10), -2);
        due("ask", x.ask(0, 10), 2);
        due("ask: left", x.ask(1, 10), 1);
        due("ask at 5", x.ask(0, 5), 1);
        due("ask at 5: left", x.ask(1, 5), 2);
        x.later(10);
        due("untell", x.untell(isB), true);
        due("at 19", x.lots(19), 2);
        due("at 20: b shows b or d", x.lots(20), 12);
        due("as known in the end", x.lots(MAX), 12);
        due("as known before all", x.lots(MIN), 24);
        due("untell", x.untell(notC), true);
        due("at 20: b not a", x.lots(20), 18);
        due("untell", x.untell(notA), true);
        due("at 20", x.lots(20), 24);
        int same = x.glimpse(2, 2, true);
        due("itself", x.sure(2, 20), 2);
        due("untold at the same TIME", x.untell(same), true);
        due("never counts", x.lots(20), 24);
        x.glimpse(0, 1, true);
        x.glimpse(2, 1, true);
        due("no lots", x.lots(20), 0);
        due("no lots: sure", x.sure(0, 20), NONE);
        due("no lots: ask", x.ask(0, 20), NONE);
        due("no lots: ask", x.ask(1, 20), NONE);
        due("sure(4, 0)", x.sure(4, 0), NONE);
        due("sure(-1, 0)", x.sure(-1, 0), NONE);
        due("ask(2, 0)", x.ask(2, 0), NONE);
        due("ask(-1, 0)", x.ask(-1, 0), NONE);
        OtherPanes none = new OtherPanes();
        due("without rooms: lots", none.lots(0), 1);
        due("without rooms: sure", none.sure(0, 0), NONE);
        due("without rooms: ask", none.ask(0, 0), NONE);
        due("without rooms: ask", none.ask(1, 0), NONE);
        OtherPanes one = of("room a joy 1;");
        due("one room: lots", one.lots(0), 1);
        due("one room: sure", one.sure(0, 0), 0);
        due("one room: ask", one.ask(0, 0), 0);
        due("one room: left", one.ask(1, 0), 1);
    }

    // Promises 41 and 42
    private static void imageAndBack() {
        OtherPanes x = of("room a joy 1;room b joy 1;fact f of a at 0;draw 3;");
        due("image(3)", x.image(3), NONE);
        due("image(-1)", x.image(-1), NONE);
        due("back(1) of nothing", x.back(1), NONE);
        due("back(3)", x.back(3), NONE);
        due("back(-1)", x.back(-1), NONE);
        for (int i = 0; i < 24; i++) {
            x.hour();
        }
        due("image(1)", x.image(1), 1);
        x.curtain(1);
        x.cast();
        x.swap(0, 1);
        x.hour();
        x.undo();
        x.aim(0, 0);
        x.glimpse(0, 0, true);
        x.best();
        due("back(1)", x.back(1), 1);
        due("HOUR", x.about(2), 0);
        due("day", x.about(3), 1);
        due("seed", x.about(4), 3);
        due("aims stay", x.about(6), 1);
        due("no acts", x.about(7), 0);
        due("none to redo", x.about(8), 0);
        due("glimpses stay", x.about(9), 1);
        due("what lies there stays", x.about(13), 2);
        due("window", x.room(0, 0), 1);
        due("curtain", x.room(1, 2), 0);
        due("knows", x.room(1, 3), 1);
        due("undo", x.undo(), false);
        due("back(0)", x.back(0), NONE);
        x.curtain(0);
        x.image(0);
        due("back(1) again", x.back(1), 1);
        due("curtain as kept", x.room(0, 2), 0);
        due("back(0) then", x.back(0), 1);
        due("curtain as kept", x.room(0, 2), 1);
    }

    // Promise 43
    private static void about() {
        OtherPanes x = of(FOUR + "fact f of a at 0;fact g of a at 0;tells a b;tells b a;tells c a;draw 77;rent (1)+2;");
        x.hour();
        x.curtain(0);
        x.swap(0, 1);
        x.undo();
        x.aim(1, 1);
        x.glimpse(0, 0, false);
        x.glimpse(0, 0, false);
        x.glimpse(0, 0, false);
        x.later(12);
        x.word(1, 1);
        x.feed(0, 0, 0, 0, 0);
        x.end(9);
        int[] want = {4, 2, 1, 0, 77, 3, 1, 2, 1, 3, 12, 9, 3, 1};
        for (int what = 0; what <= 13; what++) {
            due("about(" + what + ")", x.about(what), want[what]);
        }
        due("about(14)", x.about(14), NONE);
        due("about(-1)", x.about(-1), NONE);
    }
}
