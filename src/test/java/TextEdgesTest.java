/**
 * The boundary cases of the text that tells a QUARTER (Terms ==== 1, promises 1 to 5):
 * each method is one sentence of the document, which stands above it.
 */
public final class TextEdgesTest {
    private static final int NONE = OtherPanes.NONE;
    private static final int GAP = OtherPanes.GAP;
    private static final int MIN = Integer.MIN_VALUE;
    private static final int MAX = Integer.MAX_VALUE;
    private static final int BLANKS = 0x20202020;

    private static final String ONE_ROOM = "room a joy 1;";
    private static final String TWO = ONE_ROOM + "room b joy 2;";
    private static final String SIX = TWO + "room c joy 3;room d joy 4;room e joy 5;room f joy 6;";
    private static final String[] WORDS = {"room", "joy", "curtain", "lot", "fact", "of", "at", "lamp", "tells", "wants",
        "rent", "dark", "to", "draw", "or", "and", "not", "seen", "knows", "want", "day", "self"};

    public static void main(String[] args) {
        constants();
        bytes();
        tokens();
        lines();
        formulas();
        faults();
        Checks.finish("TextEdgesTest");
    }

    // "NONE = -1: There is none."; "GAP = -1000000: No number is there."
    private static void constants() {
        due("NONE", NONE, -1);
        due("GAP", GAP, -1000000);
    }

    private static void bytes() {
        aNewQuarterIsEmpty();
        aNewObjectHasNoneOfAnything();
        twentyBytesHighestFirst();
        feedBeyondSixteenHundred();
        endKeepsTheFirstBytes();
        endBeyondTheTape();
        endBelowNothing();
        aTextOfSixteenHundredBytes();
        quarterEmptiesTheTape();
        quarterMakesAllAsTold();
        whatWasToldBeforeIsGone();
        glimpsesAreToldAnew();
        theTimeStays();
        aFaultLeavesAll();
        faultOfTheLatest();
        faultOfAnotherWhat();
    }

    private static void tokens() {
        eightLettersAtMost();
        fourDigitsAtMost();
        blanksPartThemOrNot();
        otherBlanksAreNoTokens();
        signsThatAreNoTokens();
        asLongAsCanBe();
        noLetterBehindANumber();
        wordsThatStandForThemselves();
    }

    private static void lines() {
        noLines();
        whatCannotStandThere();
        sixRooms();
        joyFromNoughtToNine();
        tenFacts();
        aFactsHour();
        eachSortByItself();
        aFactsRoomIsToldAhead();
        aLotsRoomsAreToldAhead();
        aLotOfAllRooms();
        aLotsRoomOnce();
        noRoomBehindALot();
        onceEach();
        darkHours();
        drawFromNought();
        tellsOfTwoUnlike();
        tellsOnceInThisOrder();
        wantsOfItself();
        wantsOnceInThisOrder();
        wantsFromNought();
    }

    private static void formulas() {
        thirtyUnits();
        withinSixOthers();
        asDeepAsCanBe();
        aFormulaThatStops();
    }

    private static void faults() {
        theFirstByItsPlace();
        atOnePlaceTheLeast();
        theEndIsTheTextsLength();
        toldAlreadyOfItsSort();
        nothingOfTheSort();
        allThatCanBeToldIsRead();
    }

    private static void due(String what, long got, long want) {
        Checks.due(what, got, want);
    }

    private static void due(String what, boolean got, boolean want) {
        Checks.due(what, got, want);
    }

    private static void fault(int kind, String marked) {
        Checks.fault(kind, marked);
    }

    private static OtherPanes of(String text) {
        return Checks.quarter(text);
    }

    private static int rooms(String text) {
        return of(text).about(0);
    }

    private static int blank(OtherPanes x) {
        return x.feed(BLANKS, BLANKS, BLANKS, BLANKS, BLANKS);
    }

    // "A QUARTER is a text of at most 1,600 bytes (empty at first)."
    private static void aNewQuarterIsEmpty() {
        OtherPanes x = new OtherPanes();
        due("a new one: ROOMS", x.about(0), 0);
        due("a new one: the TAPE", x.about(11), 0);
        due("a new one: room", x.room(0, 0), GAP);
        due("a new one: fact", x.fact(0, 0), NONE);
        due("a new one: end(0)", x.end(0), 0);
        due("a new one: end(1)", x.end(1), NONE);
        due("a new one: quarter()", x.quarter(), 0);
    }

    // "OtherPanes(): An empty QUARTER."
    private static void aNewObjectHasNoneOfAnything() {
        OtherPanes x = new OtherPanes();
        for (int what = 0; what <= 13; what++) {
            due("a new one: about(" + what + ")", x.about(what), 0);
        }
        due("a new one: never dark", x.dark(0) + x.dark(12) + x.dark(23), 0);
        due("a new one: rents", x.rents(), 0);
        due("a new one: lies", x.lies(0), NONE);
        due("a new one: lots", x.lots(0), 1);
        due("a new one: fault(0)", x.fault(0), 0);
        due("a new one: fault(1)", x.fault(1), NONE);
        for (int box = 0; box < 3; box++) {
            due("a new one: back(" + box + ")", x.back(box), NONE);
        }
        // Objects have nothing of one another.
        Checks.feed(x, TWO);
        x.quarter();
        due("another new one", new OtherPanes().about(0), 0);
    }

    // "Twenty bytes come behind those on the TAPE, of each number the highest first: how many there are"
    private static void twentyBytesHighestFirst() {
        OtherPanes x = new OtherPanes();
        due("feed", x.feed(0x726f6f6d, 0x20716564, 0x206a6f79, 0x20392063, 0x75727461), 20);
        due("feed more", x.feed(0x696e3b0a, BLANKS, BLANKS, BLANKS, BLANKS), 40);
        due("as fed: quarter()", x.quarter(), 1);
        due("as fed: joy", x.room(0, 5), 9);
        due("as fed: curtain", x.room(0, 2), 1);
        // The highest byte of a number below 0, and all places of five numbers.
        for (int at = 0; at < 20; at++) {
            int[] five = {BLANKS, BLANKS, BLANKS, BLANKS, BLANKS};
            int shift = 24 - 8 * (at % 4);
            five[at / 4] = five[at / 4] & ~(255 << shift) | 0x80 << shift;
            x.end(0);
            due("feed", x.feed(five[0], five[1], five[2], five[3], five[4]), 20);
            due("byte " + at, x.quarter(), NONE);
            due("byte " + at + ": its FAULT", x.fault(0), 1);
            due("byte " + at + ": its place", x.fault(1), at);
        }
    }

    // "NONE, and nothing comes, if there would be more than 1,600."
    private static void feedBeyondSixteenHundred() {
        for (int length = 1579; length <= 1600; length++) {
            OtherPanes x = new OtherPanes();
            for (int i = 0; i < 80; i++) {
                blank(x);
            }
            x.end(length);
            int want = length <= 1580 ? length + 20 : NONE;
            due("feed behind " + length, x.feed(-1, -1, -1, -1, -1), want);
            due("bytes behind " + length, x.about(11), want == NONE ? length : want);
            due("what came behind " + length, x.quarter(), want == NONE ? 0 : NONE);
            due("where it came behind " + length, x.fault(1), want == NONE ? NONE : length);
        }
    }

    // "The TAPE has its first n bytes: n"
    private static void endKeepsTheFirstBytes() {
        OtherPanes x = new OtherPanes();
        Checks.feed(x, "room a joy 1;room b joy 2;");
        due("end(26)", x.end(26), 26);
        due("end(13)", x.end(13), 13);
        due("bytes", x.about(11), 13);
        due("quarter()", x.quarter(), 1);
        Checks.feed(x, TWO);
        due("end(0)", x.end(0), 0);
        due("nothing is left", x.about(11), 0);
        due("quarter()", x.quarter(), 0);
        Checks.feed(x, "room a");
        x.end(4);
        Checks.feed(x, " z joy 3;");
        due("behind what was kept", x.quarter(), 1);
    }

    // "NONE, doing nothing, if it has not so many"
    private static void endBeyondTheTape() {
        OtherPanes x = new OtherPanes();
        Checks.doesNothing("end(1)", x, y -> y.end(1), NONE);
        Checks.feed(x, "room a joy 1;");
        Checks.doesNothing("end(14)", x, y -> y.end(14), NONE);
        Checks.doesNothing("end(MAX)", x, y -> y.end(MAX), NONE);
        x.end(5);
        // The bytes behind are gone, though they were fed once.
        Checks.doesNothing("end(6)", x, y -> y.end(6), NONE);
        Checks.doesNothing("end(13)", x, y -> y.end(13), NONE);
    }

    // ", or n is below 0."
    private static void endBelowNothing() {
        OtherPanes x = new OtherPanes();
        Checks.doesNothing("end(-1) of nothing", x, y -> y.end(-1), NONE);
        Checks.feed(x, "room a joy 1;");
        Checks.doesNothing("end(-1)", x, y -> y.end(-1), NONE);
        Checks.doesNothing("end(MIN)", x, y -> y.end(MIN), NONE);
        due("quarter()", x.quarter(), 1);
    }

    // "at most 1,600 bytes": all of them are read.
    private static void aTextOfSixteenHundredBytes() {
        due("a line at its end", rooms(" ".repeat(1587) + "room a joy 1;"), 1);
        due("blanks alone", rooms("\n".repeat(1600)), 0);
        fault(1, " ".repeat(1599) + "!#");
        fault(2, " ".repeat(1599) + "!;");
        fault(2, "room" + " ".repeat(1596) + "!");
        fault(2, " ".repeat(1588) + "room a joy 1!");
        fault(1, " ".repeat(1588) + "!abcdefghijkl");
        fault(1, "!" + "a".repeat(1600));
        fault(1, "!" + "1".repeat(1600));
        fault(2, "!" + "(".repeat(1600));
        fault(2, "rent (((((((!" + "(".repeat(1588));
        fault(2, "rent " + "not ".repeat(7) + "!" + "not ".repeat(390));
        fault(2, "!" + ";".repeat(1600));
    }

    // "The TAPE (empty then) is the QUARTER"
    private static void quarterEmptiesTheTape() {
        OtherPanes x = of(TWO);
        due("the TAPE", x.about(11), 0);
        due("end(1)", x.end(1), NONE);
        due("an empty one", x.quarter(), 0);
        due("no ROOMS then", x.about(0), 0);
        due("no room(0, 5) then", x.room(0, 5), GAP);
        due("feed", blank(x), 20);
    }

    // "(all as told, HOUR 0, day 0, no ACTS are kept, no AIMS, no GLIMPSES, nothing lies there, BOXES are empty then ..)"
    private static void quarterMakesAllAsTold() {
        String text = TWO + "fact f of a at 0;tells a b;wants a b 3;rent joy;dark 1 to 2;draw 9;";
        String fresh = Checks.look(of(text));
        OtherPanes x = of(SIX + "lot f e d c b a;fact k of b at 1 lamp;fact l of c at 0;tells b a;tells c a;"
            + "wants b a 7;rent 1+2+3;dark 5 to 4;draw 77;");
        for (int i = 0; i < 25; i++) {
            x.hour();
        }
        x.curtain(0);
        x.swap(1, 2);
        x.cast();
        x.undo();
        x.aim(0, 1);
        x.aim(1, 0);
        x.glimpse(0, 1, true);
        x.image(0);
        x.image(1);
        x.image(2);
        x.best();
        Checks.feed(x, text);
        due("quarter()", x.quarter(), 2);
        Checks.same("all as told", Checks.look(x), fresh);
        due("undo", x.undo(), false);
        due("redo", x.redo(), false);
        due("drop", x.drop(0), false);
        due("untell", x.untell(0), false);
        due("lies", x.lies(0), NONE);
        for (int box = 0; box < 3; box++) {
            due("back(" + box + ")", x.back(box), NONE);
        }
        due("dark(1)", x.dark(1), 1);
        due("dark(5)", x.dark(5), 0);
    }

    // "all as told": what is not told any more is as if it never was, however often a QUARTER is told.
    private static void whatWasToldBeforeIsGone() {
        String full = full();
        String dark = TWO + "fact f of b at 7;fact g of a at 8;fact h of a at 0;dark 7 to 8;";
        String[] texts = {full, TWO, full, full, "", dark, TWO + "fact f of b at 0;", full, dark, ""};
        OtherPanes x = new OtherPanes();
        for (String text : texts) {
            for (int i = 0; i < 75; i++) {
                x.hour();
            }
            x.curtain(1);
            x.glimpse(0, 0, false);
            x.end(0);
            Checks.feed(x, "room z joy 9 curtain;fact y of z at 0 lamp;wants z z 9;rent 1;dark 2 to 1;draw 9;lot z;rent");
            due("a FAULT between", x.quarter(), NONE);
            x.end(0);
            Checks.feed(x, text);
            OtherPanes fresh = of(text);
            due("quarter() of " + text, x.quarter(), fresh.about(0));
            Checks.same("as told by " + text, Checks.look(x), Checks.look(fresh));
        }
    }

    // "no GLIMPSES": those told then are numbered anew, and nothing is left of the old ones.
    private static void glimpsesAreToldAnew() {
        OtherPanes x = of(TWO);
        due("not itself", x.glimpse(0, 0, false), 0);
        x.untell(x.glimpse(1, 1, false));
        due("b", x.sure(0, 0), 1);
        Checks.feed(x, TWO);
        x.quarter();
        due("itself", x.glimpse(0, 0, true), 0);
        due("a", x.sure(0, 0), 0);
        due("a second one", x.glimpse(1, 1, true), 1);
        due("is not UNTOLD", x.untell(1), true);
    }

    private static String full() {
        StringBuilder s = new StringBuilder();
        for (char a = 'a'; a <= 'f'; a++) {
            s.append("room ").append(a).append(" joy 9").append(a < 'c' ? " curtain;" : ";");
        }
        s.append("lot f e d c b a;dark 5 to 4;draw 999;rent joy+want*2;");
        for (int i = 0; i < 10; i++) {
            s.append("fact ").append((char) ('a' + i)).append(" of ").append((char) ('a' + i % 6)).append(" at ").append(i)
                .append(" lamp;");
        }
        for (char a = 'a'; a <= 'f'; a++) {
            s.append("wants ").append(a).append(" a 99;wants ").append(a).append(" b 1;");
            s.append(a == 'a' ? "" : "tells a " + a + ";tells " + a + " a;");
        }
        return s.toString();
    }

    // "the TIME stays"
    private static void theTimeStays() {
        OtherPanes x = of(TWO);
        x.later(1000);
        x.later(5);
        Checks.feed(x, TWO);
        x.quarter();
        due("the TIME", x.about(10), 1005);
        due("a GLIMPSE", x.glimpse(0, 0, true), 0);
        due("as known before", x.lots(1004), 2);
        due("as known then", x.lots(1005), 1);
    }

    // "NONE: a FAULT (all stays)."
    private static void aFaultLeavesAll() {
        OtherPanes x = of(SIX + "fact k of b at 0;tells b a;wants b a 7;rent joy+1;dark 5 to 4;draw 77;");
        x.hour();
        x.curtain(0);
        x.swap(1, 2);
        x.undo();
        x.aim(0, 1);
        x.glimpse(0, 1, true);
        x.later(3);
        x.image(1);
        x.rings();
        String[] wrongs = {"#", "room", SIX + "room g joy 1;", "room a joy 1;room a", "room a joy 99", "lot z;",
            SIX + "lot a;", TWO + "tells a a;", "rent (((((((((1", "draw 1;dark 1 to 2;rent 1;draw"};
        for (String wrong : wrongs) {
            x.end(0);
            Checks.feed(x, wrong);
            Checks.doesNothing("quarter() of " + wrong, x, y -> y.quarter(), NONE);
            due("the TAPE of " + wrong, x.about(11), wrong.length());
        }
        due("dark(0)", x.dark(0), 1);
        due("redo", x.redo(), true);
        due("the BOX", x.back(1), 0);
        due("another BOX", x.back(0), NONE);
        // The bytes are still there, and can be gone on from.
        x.end(0);
        Checks.feed(x, "room a joy");
        due("too short", x.quarter(), NONE);
        Checks.feed(x, " 5;");
        due("gone on from", x.quarter(), 1);
    }

    // "Of the latest quarter() what 0: its FAULT (0), 1: its place (NONE)."
    private static void faultOfTheLatest() {
        OtherPanes x = new OtherPanes();
        due("of none: fault(0)", x.fault(0), 0);
        due("of none: fault(1)", x.fault(1), NONE);
        Checks.feed(x, "room a joy 10;");
        due("fed alone: fault(0)", x.fault(0), 0);
        x.quarter();
        due("fault(0)", x.fault(0), 4);
        due("fault(1)", x.fault(1), 11);
        x.end(0);
        due("till the next quarter(): fault(0)", x.fault(0), 4);
        due("till the next quarter(): fault(1)", x.fault(1), 11);
        Checks.feed(x, "?");
        x.quarter();
        due("a later one: fault(0)", x.fault(0), 1);
        due("a later one: fault(1)", x.fault(1), 0);
        x.end(0);
        x.quarter();
        due("none any more: fault(0)", x.fault(0), 0);
        due("none any more: fault(1)", x.fault(1), NONE);
    }

    // "NONE for another what."
    private static void faultOfAnotherWhat() {
        OtherPanes x = new OtherPanes();
        Checks.feed(x, "?");
        x.quarter();
        for (int what : new int[] {MIN, -1, 2, 3, MAX}) {
            due("fault(" + what + ")", x.fault(what), NONE);
        }
    }

    // "words (a .. z, 8 at most)"
    private static void eightLettersAtMost() {
        due("one letter", rooms("room z joy 1;"), 1);
        due("eight letters", rooms("room zzzzzzzz joy 1;"), 1);
        fault(1, "room !zzzzzzzzz joy 1;");
        fault(1, "!roomroomr a joy 1;");
        fault(1, "room a !joyjoyjoy 1;");
        fault(1, TWO + "tells a !bbbbbbbbb;");
        // Eight letters tell NAMES apart, each of them.
        for (int at = 0; at < 8; at++) {
            StringBuilder name = new StringBuilder("aaaaaaaa");
            name.setCharAt(at, 'b');
            due("aaaaaaaa and " + name, rooms("room aaaaaaaa joy 1;room " + name + " joy 1;"), 2);
        }
        due("a and aa", rooms("room a joy 1;room aa joy 1;"), 2);
        due("a and z", rooms("room a joy 1;room z joy 1;"), 2);
        fault(3, "room zzzzzzzz joy 1;room !zzzzzzzz joy 1;");
    }

    // "N (1 to 4 digits)"
    private static void fourDigitsAtMost() {
        due("one digit", of("room a joy 1;rent 0;").room(0, 4), 0);
        due("four digits", of("room a joy 1;rent 9999;").room(0, 4), 9999);
        due("noughts ahead", of("room a joy 0007;rent 0010;").room(0, 4), 10);
        due("joy 0007", of("room a joy 0007;").room(0, 5), 7);
        fault(1, "rent !10000;");
        fault(1, "rent !00000;");
        fault(1, "room a joy !00001;");
        fault(1, "draw !99999;");
        fault(4, "draw !9999;");
    }

    // "blanks (32, 10) part them or not"
    private static void blanksPartThemOrNot() {
        due("none", rooms("room a joy1;room b joy0 curtain;"), 2);
        due("none in a formula", of("room a joy 1;rent(1+2)*3<joy;").room(0, 4), 0);
        due("none behind a word", of("room a joy9;fact f of a at23;draw999;rent not(0)and(1);").about(4), 999);
        due("many", rooms(" \n room\n\na  joy \n 1\n;\n "), 1);
        due("before all", rooms("\n room a joy 1;"), 1);
        due("behind all", rooms("room a joy 1; \n"), 1);
        fault(2, "!ro om a joy 1;");
        fault(2, "room a joy 1 !0;");
    }

    // "blanks (32, 10)": no others
    private static void otherBlanksAreNoTokens() {
        for (int sign : new int[] {0, 1, 9, 11, 12, 13, 31, 160}) {
            fault(1, "room a!" + (char) sign + "joy 1;");
            fault(1, "!" + (char) sign);
        }
    }

    // "signs ; ( ) < > = + - * / %"; "1 no TOKEN"
    private static void signsThatAreNoTokens() {
        String signs = ";()<>=+-*/%";
        for (int sign = 0; sign < 256; sign++) {
            char c = (char) sign;
            boolean isLetter = c >= 'a' && c <= 'z';
            boolean isDigit = c >= '0' && c <= '9';
            if (c == '!' || c == ' ' || c == '\n' || isLetter || isDigit) {
                continue;
            }
            OtherPanes x = new OtherPanes();
            Checks.feed(x, "draw 5 " + c);
            boolean isSign = signs.indexOf(c) >= 0;
            due("draw 5 and byte " + sign, x.quarter(), c == ';' ? 0 : NONE);
            due("draw 5 and byte " + sign + ": FAULT", x.fault(0), c == ';' ? 0 : isSign ? 2 : 1);
            due("draw 5 and byte " + sign + ": place", x.fault(1), c == ';' ? NONE : 7);
        }
        OtherPanes x = new OtherPanes();
        Checks.feed(x, "draw 5!;");
        due("byte 33", x.quarter(), NONE);
        due("byte 33: FAULT", x.fault(0), 1);
        due("byte 33: place", x.fault(1), 6);
    }

    // "each is as long as can be"
    private static void asLongAsCanBe() {
        fault(2, "!rooma joy 1;");
        fault(2, "room !joy 1;");
        fault(2, "room a !joyx 1;");
        fault(2, "room ajoy !1;");
        due("roomy is a NAME", rooms("room roomy joy 1;"), 1);
        due("12 is one N", of("room a joy 1;rent 12;").about(12), 1);
        fault(4, "room a joy !12;");
        fault(2, "room a joy 1 !2;");
        fault(2, "room a joy 1;rent 1 !nota;");
    }

    // "no letter directly behind an N"
    private static void noLetterBehindANumber() {
        fault(1, "room a joy !1curtain;");
        fault(1, "dark !1to 2;");
        fault(1, "rent !1and 2;");
        fault(1, "rent 1 and !2or 3;");
        fault(1, "rent !9999a;");
        fault(1, "room a joy !77a;");
        due("a blank between", of("room a joy 1 curtain;dark 1 to 2;rent 1 and 2;").room(0, 2), 1);
        due("a digit behind a word", of("room a joy1;dark1 to2;draw3;rent not1;").about(4), 3);
        fault(2, "room a!1 joy 1;");
        // Letters that end() took off are not behind it any more.
        OtherPanes x = new OtherPanes();
        Checks.feed(x, "draw 12to");
        x.end(7);
        due("behind the end", x.quarter(), NONE);
        due("behind the end: FAULT", x.fault(0), 2);
        due("behind the end: place", x.fault(1), 7);
    }

    // "Words that stand for themselves here are no NAMES."
    private static void wordsThatStandForThemselves() {
        for (String word : WORDS) {
            fault(2, "room !" + word + " joy 1;");
            fault(2, "room a joy 1;fact !" + word + " of a at 1;");
            fault(2, "room a joy 1;fact f of !" + word + " at 1;");
            fault(2, "room a joy 1;tells !" + word + " a;");
            fault(2, "room a joy 1;tells a !" + word + ";");
            fault(2, "room a joy 1;wants !" + word + " a 1;");
            fault(2, "room a joy 1;wants a !" + word + " 1;");
            fault(2, "room a joy 1;lot !" + word + ";");
            fault(2, TWO + "lot a !" + word + ";");
            due(word + "x is one", rooms("room " + word + "x joy 1;"), 1);
        }
        due("names of this page are free", rooms("room line joy 1;room n joy 1;room e joy 1;room unit joy 1;room hour joy 1;"), 5);
        due("all but a word", rooms("room roo joy 1;room jo joy 1;room curtai joy 1;room wan joy 1;"), 4);
    }

    // "quarter = {line}."
    private static void noLines() {
        due("no line", rooms(""), 0);
        due("blanks alone", rooms(" \n "), 0);
        fault(2, "!;");
        fault(2, TWO + "!;");
        fault(2, TWO + "!a;");
        for (String word : WORDS) {
            if (!" room lot fact tells wants rent dark draw ".contains(" " + word + " ")) {
                fault(2, TWO + "!" + word + " a;");
            }
        }
    }

    // "2 one that can't stand there": each line, broken off before each TOKEN by each sort of TOKEN
    private static void whatCannotStandThere() {
        String[] lines = {
            "room NAME joy N curtain ;", "lot a b ;", "fact NAME of a at N lamp ;", "tells a b ;", "wants a b N ;",
            "rent N ;", "dark N to N ;", "draw N ;"};
        String[] wrongs = {";", "(", ")", "<", ">", "=", "+", "-", "*", "/", "%", "x", "1", "room", "joy", "curtain", "lot",
            "fact", "of", "at", "lamp", "tells", "wants", "rent", "dark", "to", "draw", "or", "and", "not", "seen", "knows",
            "want", "day", "self", "abcdefghi", "12345", "1a", "#", ""};
        for (String line : lines) {
            String[] parts = line.split(" ");
            StringBuilder before = new StringBuilder(TWO);
            for (int i = 0; i < parts.length; i++) {
                for (String wrong : wrongs) {
                    boolean isBad = " abcdefghi 12345 1a # ".contains(" " + wrong + " ");
                    if (!mayStand(parts, i, wrong)) {
                        fault(isBad ? 1 : 2, before + "!" + wrong);
                    }
                }
                before.append(parts[i].replace("NAME", "z").replace("N", "7")).append(' ');
            }
        }
    }

    private static boolean mayStand(String[] parts, int i, String token) {
        String due = parts[i];
        boolean isOne = token.length() == 1;
        boolean isName = isOne && Character.isLetter(token.charAt(0));
        boolean isNumber = isOne && Character.isDigit(token.charAt(0));
        if (i == 0) {
            return token.isEmpty() || " room lot fact tells wants rent dark draw ".contains(" " + token + " ");
        }
        if (due.equals("NAME") || due.equals("a") || due.equals("b")) {
            return isName;
        }
        if (parts[0].equals("rent")) {
            boolean isUnit = isNumber || " ( joy seen knows want day self not ".contains(" " + token + " ");
            boolean joins = " < > = + - * / % or and ; ".contains(" " + token + " ");
            return !token.isEmpty() && (due.equals("N") ? isUnit : joins);
        }
        if (due.equals("N")) {
            return isNumber;
        }
        // Behind the last NAME of a lot another one is looked up; curtain and lamp may stand or not.
        boolean lookedUp = parts[0].equals("lot") && due.equals(";") && isName;
        boolean leftOut = (due.equals("curtain") || due.equals("lamp")) && token.equals(";");
        return token.equals(due) || lookedUp || leftOut;
    }

    // "At most 6 ROOMS"; "one of a sort too many .. at the line's first word"
    private static void sixRooms() {
        due("six", rooms(SIX), 6);
        due("the sixth", of(SIX).room(5, 5), 6);
        due("no seventh", of(SIX).room(6, 5), GAP);
        fault(2, SIX + "!room g joy 1;");
        fault(2, SIX + "!room a joy 1;");
        fault(2, SIX + "draw 1;!room");
        fault(2, SIX + "!room #");
    }

    // "(joy 0 .. 9)"
    private static void joyFromNoughtToNine() {
        due("0", of("room a joy 0;").room(0, 5), 0);
        due("9", of("room a joy 9;").room(0, 5), 9);
        fault(4, "room a joy !10;");
        fault(4, "room a joy !9999;");
        fault(2, "room a joy !-1;");
    }

    private static String facts(int count) {
        StringBuilder s = new StringBuilder(TWO);
        for (int i = 0; i < count; i++) {
            s.append("fact ").append((char) ('a' + i)).append(" of b at ").append(i).append(';');
        }
        return s.toString();
    }

    // "10 FACTS"
    private static void tenFacts() {
        due("ten", of(facts(10)).about(1), 10);
        due("the tenth", of(facts(10)).fact(9, 1), 9);
        due("all ten as bits", of(facts(10)).room(1, 6), 1023);
        due("no eleventh", of(facts(10)).fact(10, 1), NONE);
        fault(2, facts(10) + "!fact z of a at 1;");
        fault(2, facts(10) + "!fact a of a at 1;");
        fault(2, facts(10) + "!fact");
    }

    // "at an HOUR 0 .. 23"
    private static void aFactsHour() {
        due("0", of(TWO + "fact f of a at 0;").fact(0, 1), 0);
        due("23", of(TWO + "fact f of a at 23;").fact(0, 1), 23);
        fault(4, TWO + "fact f of a at !24;");
        fault(4, TWO + "fact f of a at !9999 lamp;");
    }

    // "numbered as told, each sort by itself"
    private static void eachSortByItself() {
        OtherPanes x = of("room z joy 1;room b joy 2;fact z of b at 1;fact b of z at 2;room a joy 3;fact a of a at 3;");
        due("ROOMS", x.about(0), 3);
        due("FACTS", x.about(1), 3);
        for (int i = 0; i < 3; i++) {
            due("joy of " + i, x.room(i, 5), i + 1);
            due("HOUR of " + i, x.fact(i, 1), i + 1);
        }
        due("z of b", x.fact(0, 0), 1);
        due("b of z", x.fact(1, 0), 0);
        due("a of a", x.fact(2, 0), 2);
    }

    // "(of a ROOM told ahead ..)", for FACTS, tells and wants
    private static void aFactsRoomIsToldAhead() {
        fault(5, "fact f of !a at 1;room a joy 1;");
        fault(5, "room a joy 1;fact f of !b at 1;room b joy 1;");
        fault(5, "room a joy 1;tells a !b;room b joy 1;");
        fault(5, "room a joy 1;tells !b a;room b joy 1;");
        fault(5, "room a joy 1;wants a !b 1;room b joy 1;");
        fault(5, "room a joy 1;wants !b a 1;room b joy 1;");
        due("ahead", of("room a joy 1;fact f of a at 1;room b joy 1;tells a b;wants b a 1;").about(5), 1);
    }

    // "a lot (ROOMS told ahead ..)"
    private static void aLotsRoomsAreToldAhead() {
        fault(5, "lot !a;room a joy 1;");
        fault(5, "room a joy 1;lot !b a;room b joy 1;");
        fault(5, "room a joy 1;lot a !b;room b joy 1;");
        OtherPanes x = of("room a joy 1;room b joy 1;room c joy 1;lot c a b;");
        due("ROOM 0's window", x.room(0, 0), 2);
        due("ROOM 1's window", x.room(1, 0), 0);
        due("ROOM 2's window", x.room(2, 0), 1);
    }

    // "as many as there are ROOMS at the text's end"; "a lot that ends too soon: at its ;"
    private static void aLotOfAllRooms() {
        due("all six", of(SIX + "lot f e d c b a;").room(0, 0), 5);
        due("one", of("room a joy 1;lot a;").room(0, 0), 0);
        fault(2, TWO + "lot a!;");
        fault(2, TWO + "lot a !;");
        fault(2, SIX + "lot f e d c b!;");
        fault(2, TWO + "lot!;");
        fault(2, "lot!;");
        fault(2, TWO + "lot a!");
        fault(2, TWO + "lot a b!");
        fault(2, TWO + "lot b a !lot;");
        fault(2, TWO + "lot b !2;");
        // One too many is one a second time, or one that is not.
        fault(3, TWO + "lot b a !a;");
        fault(5, TWO + "lot b a !c;");
        fault(3, SIX + "lot a b c d e f !f;");
        fault(5, SIX + "lot a b c d e f !g;");
    }

    // "each once"; "a ROOM of a lot a second time"
    private static void aLotsRoomOnce() {
        fault(3, TWO + "lot a !a;");
        fault(3, TWO + "lot b !b a;");
        fault(3, SIX + "lot a b c d e !a;");
    }

    // "a ROOM behind a lot: at the line's first word"
    private static void noRoomBehindALot() {
        fault(2, TWO + "lot a b;!room c joy 1;");
        fault(2, TWO + "lot a b;draw 1;!room c joy 1;");
        fault(2, TWO + "lot a b;!room a joy 1;");
        due("other lines may stand there", of(TWO + "lot b a;fact f of a at 1;tells a b;").about(1), 1);
    }

    // "once each"; "a second time: at the line's first word"
    private static void onceEach() {
        fault(2, TWO + "lot a b;!lot a b;");
        fault(2, TWO + "lot a b;!lot;");
        fault(2, "rent 0;!rent 1;");
        fault(2, "rent 0;!rent;");
        fault(2, "dark 0 to 0;!dark 0 to 0;");
        fault(2, "dark 0 to 0;!dark 24 to 0;");
        fault(2, "draw 0;!draw 0;");
        fault(2, "draw 0;!draw");
        due("each once", of(TWO + "draw 0;dark 0 to 0;rent 0;lot a b;").about(12), 1);
    }

    // "dark (HOURS 0 .. 23, from the first one to the second one, over midnight, too; never dark if not told)"
    private static void darkHours() {
        fault(4, "dark !24 to 0;");
        fault(4, "dark 0 to !24;");
        fault(4, "dark !24 to 24;");
        for (int from = 0; from < 24; from++) {
            for (int to = 0; to < 24; to++) {
                darkFromTo(from, to);
            }
        }
        OtherPanes never = of("draw 1;");
        for (int hour = 0; hour < 24; hour++) {
            due("never dark: " + hour, never.dark(hour), 0);
        }
    }

    private static void darkFromTo(int from, int to) {
        boolean[] want = new boolean[24];
        int hour = from;
        want[hour] = true;
        while (hour != to) {
            hour = (hour + 1) % 24;
            want[hour] = true;
        }
        OtherPanes x = of("dark " + from + " to " + to + ";");
        for (int i = 0; i < 24; i++) {
            due("dark " + from + " to " + to + ": " + i, x.dark(i), want[i] ? 1 : 0);
        }
    }

    // "draw (0 .. 999; 0)"
    private static void drawFromNought() {
        due("not told", of(TWO).about(4), 0);
        due("0", of("draw 0;").about(4), 0);
        due("999", of("draw 999;").about(4), 999);
        due("0999", of("draw 0999;").about(4), 999);
        fault(4, "draw !1000;");
        fault(4, "draw !9999;");
    }

    // "tells (of two unlike ROOMS ..)"; "two of tells alike .. at the second NAME"
    private static void tellsOfTwoUnlike() {
        fault(3, TWO + "tells a !a;");
        fault(3, TWO + "tells b !b;");
        fault(5, TWO + "tells !c c;");
    }

    // "each two once in this order"
    private static void tellsOnceInThisOrder() {
        due("both orders", of(TWO + "tells a b;tells b a;").about(5), 2);
        fault(3, TWO + "tells a b;tells a !b;");
        fault(3, TWO + "tells a b;tells b a;tells b !a;");
        StringBuilder all = new StringBuilder(SIX);
        for (char a = 'a'; a <= 'f'; a++) {
            for (char b = 'a'; b <= 'f'; b++) {
                if (a != b) {
                    all.append("tells ").append(a).append(' ').append(b).append(';');
                }
            }
        }
        due("all thirty", of(all.toString()).about(5), 30);
        fault(3, all + "tells f !e;");
        due("told of none", of(TWO).about(5), 0);
    }

    // "wants (of a ROOM another one or itself ..)"
    private static void wantsOfItself() {
        due("itself", of(TWO + "wants a a 7;").wants(0, 0), 7);
        due("another one", of(TWO + "wants a b 7;").wants(0, 1), 7);
    }

    // "each two once in this order": of wants
    private static void wantsOnceInThisOrder() {
        OtherPanes x = of(TWO + "wants a b 1;wants b a 2;wants a a 3;wants b b 4;");
        due("a b", x.wants(0, 1), 1);
        due("b a", x.wants(1, 0), 2);
        due("a a", x.wants(0, 0), 3);
        due("b b", x.wants(1, 1), 4);
        fault(3, TWO + "wants a b 1;wants a !b 1;");
        fault(3, TWO + "wants a b 0;wants a !b 2;");
        fault(3, TWO + "wants b b 0;wants b !b 0;");
        fault(3, TWO + "wants a b 0;wants b a 0;wants b !a 100;");
    }

    // "0 .. 99"
    private static void wantsFromNought() {
        due("0", of(TWO + "wants a b 0;").wants(0, 1), 0);
        due("99", of(TWO + "wants a b 99;").wants(0, 1), 99);
        fault(4, TWO + "wants a b !100;");
        fault(4, TWO + "wants a b !9999;");
        fault(2, TWO + "wants a b!;");
    }

    // "60 units in all, 30 in one e"; "a unit too many .. at its first TOKEN"
    private static void thirtyUnits() {
        String thirty = "rent 1" + "+1".repeat(29);
        due("30", of("room a joy 1;" + thirty + ";").room(0, 4), 30);
        due("30 as told", of(thirty + ";").about(12), 30);
        for (String unit : new String[] {"1", "joy", "seen", "knows", "want", "day", "self", "(1)"}) {
            fault(2, thirty + "+!" + unit + ";");
            fault(2, thirty + " or not !" + unit + ";");
            fault(2, thirty + "<!" + unit + ";");
            due("one " + unit, of("rent " + unit + ";").about(12), unit.equals("(1)") ? 2 : 1);
        }
        // A unit ( e ) is one, and so is each within it.
        due("28 in ( )", of("rent (1" + "+1".repeat(27) + ")+1;").about(12), 30);
        fault(2, "rent (1" + "+1".repeat(28) + ")+!1;");
        fault(2, "rent (1" + "+1".repeat(28) + "+!1);");
        fault(2, "rent 1" + "+1".repeat(28) + "+(!1);");
        fault(2, "rent (1)" + "+(1)".repeat(14) + "+!(1);");
        due("not told", of(TWO).about(12), 0);
    }

    // "(a unit ( e ), or a one behind not, within 6 others at most)"; "what is within 7 others: at its first TOKEN, or the not"
    private static void withinSixOthers() {
        for (int kinds = 0; kinds < 128; kinds++) {
            StringBuilder open = new StringBuilder("rent ");
            StringBuilder close = new StringBuilder();
            for (int i = 0; i < 7; i++) {
                boolean isNot = (kinds >> i & 1) != 0;
                open.append(isNot ? "not " : "(");
                close.append(isNot ? "" : ")");
            }
            due("seven: " + open, rooms(open + "1" + close + ";"), 0);
            fault(2, open + "!(1)" + close + ";");
            fault(2, open + "!not 1" + close + ";");
            fault(2, open + "!not (((" + close + ";");
        }
        // What stands beside is not within.
        String seven = "(((((((1)))))))";
        due("beside", of("room a joy 1;rent " + seven + "+" + seven + "*" + seven + ";").room(0, 4), 2);
        due("a not beside", rooms("rent " + "not ".repeat(7) + "1 and " + "not ".repeat(7) + "1 or " + seven + ";"), 0);
        due("a relation behind seven nots", rooms("rent " + "not ".repeat(7) + "1 < 2;"), 0);
    }

    // 30 units and 7 around at once: what waits for what comes behind it is as much as can be.
    private static void asDeepAsCanBe() {
        String level = "1 or 1 and 1 < 1 + 1 * (";
        String last = "1 or 1 and 1 < 1 + 1 * 2";
        due("four ( ) and six signs each", of(ONE_ROOM + "rent " + level.repeat(4) + last + "))));").about(12), 30);
        due("its RENT", of(ONE_ROOM + "rent " + level.repeat(4) + last + "))));").room(0, 4), 1);
        String sum = "1+2*(";
        // 1+2*(1+2*( .. (1) .. )) seven times: 2^8 - 1.
        due("seven ( ) of sums", of(ONE_ROOM + "rent " + sum.repeat(7) + "1" + ")".repeat(7) + ";").room(0, 4), 255);
        due("from the right", of(ONE_ROOM + "rent 9-(8-(7-(6-(5-(4-(3-(2-1)))))));").room(0, 4), 9 - (8 - (7 - (6 - (5 - (4 - (3 - 1)))))));
        String nots = "not not not not not not not ";
        due("seven nots before each of 30", of(ONE_ROOM + "rent " + nots + "0" + (" and " + nots + "0").repeat(29) + ";").room(0, 4), 1);
        due("one of them is not 0", of(ONE_ROOM + "rent " + nots + "0" + (" and " + nots + "0").repeat(28) + " and " + nots + "5;")
            .room(0, 4), 0);
    }

    // "e = both {or both}. .." as far as it goes
    private static void aFormulaThatStops() {
        for (String sign : new String[] {"or", "and", "<", ">", "=", "+", "-", "*", "/", "%"}) {
            fault(2, "rent 1 " + sign + " !;");
            fault(2, "rent 1 " + sign + "!");
            fault(2, "rent !" + sign + " 1;");
            fault(2, "rent (!" + sign + " 1);");
            fault(2, "rent 1 " + sign + " !);");
            fault(2, "rent 1 " + sign + " !" + sign + " 1;");
        }
        fault(2, "rent not!");
        fault(2, "rent not !;");
        fault(2, "rent (!);");
        fault(2, "rent (1!;");
        fault(2, "rent (1 !1);");
        fault(2, "rent 1!);");
        fault(2, "rent 1 < 2 !> 3;");
        fault(2, "rent 1 = 2 !< 3;");
        fault(2, "rent 1 + !not 1;");
        fault(2, "rent 1 = !not 1;");
        fault(2, "rent 1 !not 1;");
        fault(2, "rent !curtain;");
        due("in ( ) it goes on", of("room a joy 1;rent (1<2)<3;").room(0, 4), 1);
        due("not in ( )", of("room a joy 1;rent 1+(not 0);").room(0, 4), 2);
    }

    // "FAULTS, the first by its place (bytes from 0 ..)"
    private static void theFirstByItsPlace() {
        fault(2, "!;#");
        fault(1, "!#;");
        fault(4, "room a joy !10;room a");
        fault(3, "room a joy 1;room !a joy 10;#");
        fault(5, "room a joy 1;tells !b b;tells a a;");
        // What is no TOKEN further on is not looked at before.
        fault(2, "room !joy #");
        fault(4, "draw !1000#");
        fault(2, TWO + "lot a!; abcdefghij");
    }

    // "at one place the least"
    private static void atOnePlaceTheLeast() {
        String thirty = "rent 1" + "+1".repeat(29);
        fault(1, "!# a joy 1;");
        fault(1, "room !abcdefghi joy 1;");
        fault(1, thirty + "+!#;");
        fault(1, thirty + "+!12345;");
        fault(1, "rent (((((((!?1)))))));");
        fault(1, "draw !1000a;");
        fault(1, "room a joy !12345;");
        fault(1, TWO + "lot a !aaaaaaaaa;");
        fault(2, SIX + "!room a joy 99;");
        fault(2, TWO + "tells !joy a;");
    }

    // "(.. the end: the text's length)"
    private static void theEndIsTheTextsLength() {
        fault(2, "room!");
        fault(2, "room \n  !");
        fault(2, "room a!");
        fault(2, "room a joy!");
        fault(2, "room a joy 1!");
        fault(2, "room a joy 1 curtain !");
        fault(2, "room a joy 1;lot!");
        fault(2, "room a joy 1;lot a!");
        fault(2, "fact!");
        fault(2, "room a joy 1;fact f!");
        fault(2, "room a joy 1;fact f of!");
        fault(2, "room a joy 1;fact f of a!");
        fault(2, "room a joy 1;fact f of a at!");
        fault(2, "room a joy 1;fact f of a at 1!");
        fault(2, "room a joy 1;fact f of a at 1 lamp !");
        fault(2, "tells!");
        fault(2, TWO + "tells a!");
        fault(2, TWO + "tells a b!");
        fault(2, "wants!");
        fault(2, TWO + "wants a!");
        fault(2, TWO + "wants a b!");
        fault(2, TWO + "wants a b 1!");
        fault(2, "rent!");
        fault(2, "rent 1!");
        fault(2, "dark!");
        fault(2, "dark 1!");
        fault(2, "dark 1 to!");
        fault(2, "dark 1 to 2!");
        fault(2, "draw!");
        fault(2, "draw 1!");
    }

    // "3 a NAME told already (of its sort)"
    private static void toldAlreadyOfItsSort() {
        fault(3, "room a joy 1;room !a joy 1;");
        fault(3, SIX.substring(0, 65) + "room !e joy 1;");
        fault(3, TWO + "fact f of a at 1;fact !f of b at 2;");
        fault(3, TWO + "fact f of a at 1;fact !f of z at 99;");
        due("of another sort", of("room a joy 1;fact a of a at 1;room b joy 1;fact b of a at 1;").about(1), 2);
        due("a ROOM by a FACT's NAME", rooms("room a joy 1;fact b of a at 1;room b joy 1;"), 2);
    }

    // "5 a NAME that nothing of the sort has"
    private static void nothingOfTheSort() {
        fault(5, TWO + "fact f of a at 1;fact g of !f at 1;");
        fault(5, TWO + "fact f of !f at 1;");
        fault(5, TWO + "fact f of a at 1;tells !f a;");
        fault(5, TWO + "fact f of a at 1;wants a !f 1;");
        fault(5, TWO + "fact f of a at 1;lot a !f;");
    }

    // "line = room .. | lot .. | fact .. | tells .. | wants .. | rent .. | dark .. | draw ..": in any order that may be
    private static void allThatCanBeToldIsRead() {
        OtherPanes x = of("draw 12;rent joy*100+want;dark 23 to 0;room a joy 9 curtain;fact f of a at 23 lamp;wants a a 99;"
            + "room b joy 0;tells b a;lot b a;fact g of b at 0;wants a b 1;");
        due("ROOMS", x.about(0), 2);
        due("FACTS", x.about(1), 2);
        due("SEED", x.about(4), 12);
        due("tells", x.about(5), 1);
        due("units", x.about(12), 3);
        due("curtain of a", x.room(0, 2), 1);
        due("curtain of b", x.room(1, 2), 0);
        due("RENT of a", x.room(0, 4), 1);
        due("RENT of b", x.room(1, 4), 900);
        due("lamp of f", x.fact(0, 2), 1);
        due("lamp of g", x.fact(1, 2), 0);
        due("dark", x.dark(22) * 1000 + x.dark(23) * 100 + x.dark(0) * 10 + x.dark(1), 110);
    }
}
