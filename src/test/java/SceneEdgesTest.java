/**
 * The boundary cases of what stands, what is done and what lies ahead (Terms ==== 2 and
 * ==== 3, promises 6 to 24): each method is one sentence of the document, which stands above it.
 */
public final class SceneEdgesTest {
    private static final int NONE = OtherPanes.NONE;
    private static final int GAP = OtherPanes.GAP;
    private static final int MIN = Integer.MIN_VALUE;
    private static final int MAX = Integer.MAX_VALUE;

    private static final String ONE = "room a joy 1;";
    private static final String TWO = ONE + "room b joy 2;";
    private static final String THREE = TWO + "room c joy 3;";
    private static final String SIX = THREE + "room d joy 4;room e joy 5;room f joy 6;";

    public static void main(String[] args) {
        whatStands();
        theRent();
        whatIsDone();
        whatLiesAhead();
        Checks.finish("SceneEdgesTest");
    }

    private static void whatStands() {
        ifNoLotIsTold();
        seesBehindNoCurtain();
        knowsItsOwnAtFirst();
        roomThatIsNot();
        roomOfAnotherWhat();
        factThatIsNot();
        factOfAnotherWhat();
        wantNotTold();
        wantsOfOneThatCannotBe();
        darkOfAnotherHour();
    }

    private static void theRent() {
        rentNotTold();
        wantInTheRent();
        dayInTheRent();
        selfAndSeenInTheRent();
        joyAndKnowsInTheRent();
        wrapping();
        quotientsAreCut();
        byNought();
        oneOrNought();
        rentsOfNone();
    }

    private static void whatIsDone() {
        curtainOfNoRoom();
        swapOfOne();
        swapOfOneThatCannotBe();
        castOfFewRooms();
        theSeedWraps();
        castDownToTheSecond();
        hourInTheDark();
        hourBehindTwentyThree();
        wellByWhatEachKnew();
        wellOncePerDay();
        hourOfNone();
        hourAboveDay999();
        undoOfNone();
        redoOfNone();
        redoTillAnotherAct();
        fortyAreKept();
        whatIsRefusedIsNoAct();
        whatIsAskedIsNoAct();
    }

    private static void whatLiesAhead() {
        whenAlready();
        whenNever();
        whenOneCannotBe();
        whenAtTheLatest();
        willOfNoHours();
        willOfOneThatCannotBe();
        wordOfOneAndTheSame();
        wordThatNeverComes();
        wordOfOneThatCannotBe();
        wordByTheFewestSteps();
        reachOfItself();
        reachOfNoRoom();
        harmByOthers();
        harmOfNoRoom();
        deafOfNoFact();
        gossipOfNoHours();
        gossipOfAnotherNumber();
        mutualOfUnlike();
        aheadBeyondTheLast();
    }

    private static void due(String what, long got, long want) {
        Checks.due(what, got, want);
    }

    private static void due(String what, boolean got, boolean want) {
        Checks.due(what, got, want);
    }

    private static OtherPanes of(String text) {
        return Checks.quarter(text);
    }

    private static void pass(OtherPanes x, int hours) {
        for (int i = 0; i < hours; i++) {
            x.hour();
        }
    }

    // "(as the lot tells; if none is told, the next one, the last the first)"
    private static void ifNoLotIsTold() {
        for (int rooms = 1; rooms <= 6; rooms++) {
            OtherPanes x = of(SIX.substring(0, 13 * rooms));
            for (int room = 0; room < rooms; room++) {
                due(rooms + " ROOMS: window of " + room, x.room(room, 0), (room + 1) % rooms);
                due(rooms + " ROOMS: who shows " + room, x.room(room, 1), (room + rooms - 1) % rooms);
            }
        }
        due("a lot is told", of(TWO + "lot a b;").room(0, 0), 0);
    }

    // "One SEES the ROOM that is SHOWN, if that has no curtain drawn."
    private static void seesBehindNoCurtain() {
        OtherPanes x = of("room a joy 1;room b joy 1 curtain;room c joy 1;lot b c a;");
        due("a does not see b", x.room(0, 7), 0);
        due("b, behind its own, sees c", x.room(1, 7), 1);
        due("c sees a", x.room(2, 7), 1);
        OtherPanes alone = of("room a joy 1;");
        due("one sees itself", alone.room(0, 7), 1);
        alone.curtain(0);
        due("not behind its own curtain", alone.room(0, 7), 0);
    }

    // "A ROOM KNOWS FACTS (at first its own)."
    private static void knowsItsOwnAtFirst() {
        OtherPanes x = of(THREE + "fact f of a at 0;fact g of c at 23;fact h of a at 5 lamp;");
        due("a", x.room(0, 3), 5);
        due("b", x.room(1, 3), 0);
        due("c", x.room(2, 3), 2);
        due("who knows f", x.fact(0, 3), 1);
        due("who knows g", x.fact(1, 3), 4);
        due("FACTS of a", x.room(0, 6), 5);
        due("FACTS of b", x.room(1, 6), 0);
    }

    // "GAP if there is none such": room
    private static void roomThatIsNot() {
        OtherPanes x = of(THREE);
        for (int room : new int[] {MIN, -1, 3, 4, 6, 31, 32, MAX}) {
            for (int what = -1; what <= 8; what++) {
                due("room(" + room + ", " + what + ")", x.room(room, what), GAP);
            }
        }
        due("of none", of("").room(0, 0), GAP);
        due("the last of six", of(SIX).room(5, 5), 6);
        due("behind six", of(SIX).room(6, 5), GAP);
    }

    // ", or for another what."
    private static void roomOfAnotherWhat() {
        OtherPanes x = of(TWO);
        for (int what : new int[] {MIN, -1, 8, 9, 32, MAX}) {
            due("room(0, " + what + ")", x.room(0, what), GAP);
        }
        due("room(0, 7)", x.room(0, 7), 1);
    }

    // "NONE if there is none such": fact
    private static void factThatIsNot() {
        OtherPanes x = of(TWO + "fact f of a at 1;fact g of b at 2;");
        for (int fact : new int[] {MIN, -1, 2, 10, 32, MAX}) {
            for (int what = -1; what <= 4; what++) {
                due("fact(" + fact + ", " + what + ")", x.fact(fact, what), NONE);
            }
        }
        due("of none", of(TWO).fact(0, 0), NONE);
    }

    // ", or for another what.": fact
    private static void factOfAnotherWhat() {
        OtherPanes x = of(TWO + "fact f of b at 1 lamp;");
        for (int what : new int[] {MIN, -1, 4, 5, 32, MAX}) {
            due("fact(0, " + what + ")", x.fact(0, what), NONE);
        }
        due("fact(0, 3)", x.fact(0, 3), 2);
    }

    // "(0 if it is not told)"
    private static void wantNotTold() {
        OtherPanes x = of(TWO + "wants a b 5;");
        due("told", x.wants(0, 1), 5);
        due("in the other order", x.wants(1, 0), 0);
        due("of itself", x.wants(0, 0), 0);
    }

    // "NONE if one can't be.": wants
    private static void wantsOfOneThatCannotBe() {
        OtherPanes x = of(TWO + "wants a b 5;");
        for (int room : new int[] {MIN, -1, 2, 6, 32, MAX}) {
            due("wants(" + room + ", 0)", x.wants(room, 0), NONE);
            due("wants(0, " + room + ")", x.wants(0, room), NONE);
            due("wants(" + room + ", " + room + ")", x.wants(room, room), NONE);
        }
    }

    // "NONE for another one.": dark
    private static void darkOfAnotherHour() {
        OtherPanes x = of("dark 0 to 23;");
        for (int hour : new int[] {MIN, -24, -1, 24, 25, 47, MAX}) {
            due("dark(" + hour + ")", x.dark(hour), NONE);
        }
        due("dark(0)", x.dark(0), 1);
        due("dark(23)", x.dark(23), 1);
    }

    // "rent (0, if it is not told)"
    private static void rentNotTold() {
        OtherPanes x = of(TWO + "wants a b 3;");
        due("a", x.room(0, 4), 0);
        due("rents", x.rents(), 0);
    }

    // "want (what it wants of the ROOM that is SHOWN; 0 if not told)"
    private static void wantInTheRent() {
        OtherPanes x = of(THREE + "wants a b 7;wants a c 5;wants a a 3;wants b a 9;rent want;");
        due("of what is shown", x.room(0, 4), 7);
        due("not told", x.room(1, 4), 0);
        x.swap(0, 1);
        due("of what is shown then", x.room(0, 4), 5);
        x.swap(0, 2);
        due("of itself", x.room(0, 4), 3);
    }

    // "day (0 at first)"
    private static void dayInTheRent() {
        OtherPanes x = of(ONE + "rent day;");
        due("at first", x.room(0, 4), 0);
        pass(x, 23);
        due("at 23", x.room(0, 4), 0);
        pass(x, 1);
        due("behind 23", x.room(0, 4), 1);
        pass(x, 24);
        due("a day later", x.room(0, 4), 2);
    }

    // "joy (of the ROOM that is SHOWN) .. knows (how many FACTS it KNOWS)"
    private static void joyAndKnowsInTheRent() {
        OtherPanes x = of("room a joy 0;room b joy 9;fact f of b at 0;fact g of b at 0;rent joy*100+knows;");
        due("a SHOWS b, KNOWS none", x.room(0, 4), 900);
        due("b SHOWS a, KNOWS two", x.room(1, 4), 2);
        x.hour();
        due("a KNOWS two then", x.room(0, 4), 902);
        x.curtain(1);
        due("behind a curtain joy is the same", x.room(0, 4), 902);
    }

    // "seen (1 if it has no curtain drawn itself, else 0) .. self (1 if its window SHOWS itself, else 0)"
    private static void selfAndSeenInTheRent() {
        OtherPanes x = of(TWO + "lot a b;rent seen*10+self;");
        due("both", x.room(0, 4), 11);
        x.curtain(0);
        due("its own curtain", x.room(0, 4), 1);
        due("not the other's", x.room(1, 4), 11);
        x.swap(0, 1);
        due("not itself", x.room(0, 4), 0);
        due("the other one, behind a's curtain", x.room(1, 4), 10);
    }

    private static int rent(String e) {
        return of("room a joy 0;rent " + e + ";").room(0, 4);
    }

    // "ints, wrapping"
    private static void wrapping() {
        due("2^31 - 1", rent("2048*1024*1024-1"), MAX);
        due("one more", rent("2048*1024*1024-1+1"), MIN);
        due("2^31", rent("2048*1024*1024"), MIN);
        due("one less", rent("2048*1024*1024-1-1"), MAX - 1);
        due("0 less 2^31", rent("0-2048*1024*1024"), MIN);
        due("below the least", rent("0-2048*1024*1024-1"), MAX);
        due("2^32", rent("4096*1024*1024"), 0);
        due("9999^4", rent("9999*9999*9999*9999"), 9999 * 9999 * 9999 * 9999);
        due("the least compared", rent("2048*1024*1024<0"), 1);
        OtherPanes two = of(TWO + "rent 2048*1024*1024-1;");
        due("together", two.rents(), -2);
        OtherPanes six = of(SIX + "rent 1024*1024*1024;");
        due("six together", six.rents(), MIN);
    }

    // "/ cut, % its rest"
    private static void quotientsAreCut() {
        due("7/2", rent("7/2"), 3);
        due("-7/2", rent("(0-7)/2"), -3);
        due("7/-2", rent("7/(0-2)"), -3);
        due("-7/-2", rent("(0-7)/(0-2)"), 3);
        due("7%2", rent("7%2"), 1);
        due("-7%2", rent("(0-7)%2"), -1);
        due("7%-2", rent("7%(0-2)"), 1);
        due("-7%-2", rent("(0-7)%(0-2)"), -1);
        due("-1/2", rent("(0-1)/2"), 0);
        due("the least by -1", rent("2048*1024*1024/(0-1)"), MIN);
        due("the least, its rest by -1", rent("2048*1024*1024%(0-1)"), 0);
        due("from the left", rent("100/10/5"), 2);
        due("from the left", rent("100%30*2/4"), 5);
    }

    // "both by 0: 0"
    private static void byNought() {
        due("7/0", rent("7/0"), 0);
        due("7%0", rent("7%0"), 0);
        due("0/0", rent("0/0"), 0);
        due("0%0", rent("0%0"), 0);
        due("-7/joy", rent("(0-7)/joy"), 0);
        due("the least by 0", rent("2048*1024*1024/0"), 0);
        due("the least, its rest by 0", rent("2048*1024*1024%0"), 0);
        due("it goes on", rent("7/0+5"), 5);
        due("it goes on", rent("7%0*5+1"), 1);
    }

    // "relations, and, or, not are 1 or 0, of what is not 0"
    private static void oneOrNought() {
        due("5 and 7", rent("5 and 7"), 1);
        due("-1 and 1", rent("0-1 and 1"), 1);
        due("0 and 7", rent("0 and 7"), 0);
        due("7 and 0", rent("7 and 0"), 0);
        due("7 or 0", rent("7 or 0"), 1);
        due("0 or 7", rent("0 or 7"), 1);
        due("5 or 7", rent("5 or 7"), 1);
        due("0 or 0", rent("0 or 0"), 0);
        due("not 0", rent("not 0"), 1);
        due("not 7", rent("not 7"), 0);
        due("not -1", rent("not 0-1"), 0);
        due("not not 7", rent("not not 7"), 1);
        due("the least is not 0", rent("2048*1024*1024 and 1"), 1);
        due("1<2", rent("1<2"), 1);
        due("2<2", rent("2<2"), 0);
        due("2>2", rent("2>2"), 0);
        due("3>2", rent("3>2"), 1);
        due("2=2", rent("2=2"), 1);
        due("2=3", rent("2=3"), 0);
        due("-1<0", rent("0-1<0"), 1);
        due("not 1<2", rent("not 1<2"), 0);
        due("not 2<1", rent("not 2<1"), 1);
        due("or is last", rent("1 or 1 and 0"), 1);
        due("and before", rent("0 and 0 or 1"), 1);
        due("a sum before a relation", rent("1+1<3-0"), 1);
    }

    // "All RENTS together.": of none
    private static void rentsOfNone() {
        due("of none", of("rent 7;").rents(), 0);
        due("of one", of(ONE + "rent 7;").rents(), 7);
        due("of six", of(SIX + "rent joy;").rents(), 21);
    }

    // "NONE, doing nothing, if there is no such ROOM. (An ACT.)"
    private static void curtainOfNoRoom() {
        OtherPanes x = of(TWO);
        x.curtain(0);
        x.undo();
        for (int room : new int[] {MIN, -1, 2, 6, 32, MAX}) {
            Checks.doesNothing("curtain(" + room + ")", x, y -> y.curtain(room), NONE);
        }
        due("drawn", x.curtain(1), 1);
        due("not any more", x.curtain(1), 0);
        due("ACTS", x.about(7), 2);
        due("of none", of("").curtain(0), NONE);
    }

    // "NONE, doing nothing, if both are one"
    private static void swapOfOne() {
        OtherPanes x = of(TWO);
        x.swap(0, 1);
        x.undo();
        Checks.doesNothing("swap(0, 0)", x, y -> y.swap(0, 0), NONE);
        Checks.doesNothing("swap(1, 1)", x, y -> y.swap(1, 1), NONE);
        due("swap(1, 0)", x.swap(1, 0), 1);
    }

    // ", or one can't be. (An ACT.)"
    private static void swapOfOneThatCannotBe() {
        OtherPanes x = of(TWO);
        for (int room : new int[] {MIN, -1, 2, 6, 32, MAX}) {
            Checks.doesNothing("swap(" + room + ", 0)", x, y -> y.swap(room, 0), NONE);
            Checks.doesNothing("swap(0, " + room + ")", x, y -> y.swap(0, room), NONE);
            Checks.doesNothing("swap(" + room + ", " + room + ")", x, y -> y.swap(room, room), NONE);
        }
        due("of one alone", of(ONE).swap(0, 1), NONE);
    }

    // "from the last ROOM down to the second one": with one ROOM, or none, nothing is drawn.
    private static void castOfFewRooms() {
        OtherPanes none = of("draw 7;");
        due("of none", none.cast(), 0);
        due("of none: SEED", none.about(4), 7);
        due("of none: an ACT", none.about(7), 1);
        OtherPanes one = of(ONE + "draw 7;");
        due("of one", one.cast(), 1);
        due("of one: SEED", one.about(4), 7);
        due("of one: an ACT", one.about(7), 1);
        due("of one: undone", one.undo(), true);
        OtherPanes two = of(TWO);
        due("of two", two.cast(), 0);
        due("of two: SEED", two.about(4), 71);
    }

    // "the SEED becomes its 137-fold and 71 more, modulo 1,000"
    private static void theSeedWraps() {
        for (int draw = 0; draw < 1000; draw++) {
            OtherPanes x = of(TWO + "draw " + draw + ";");
            int seed = (draw * 137 + 71) % 1000;
            due("draw " + draw, x.cast(), seed % 2 == 0 ? 2 : 0);
            due("draw " + draw + ": SEED", x.about(4), seed);
        }
    }

    // "its window is swapped with that of the ROOM of its rest by one more than its own number"
    private static void castDownToTheSecond() {
        for (int draw = 0; draw < 1000; draw += 37) {
            OtherPanes x = of(SIX + "draw " + draw + ";");
            int[] windows = {1, 2, 3, 4, 5, 0};
            int seed = draw;
            for (int casts = 0; casts < 3; casts++) {
                for (int room = 5; room >= 1; room--) {
                    seed = (seed * 137 + 71) % 1000;
                    int with = seed % (room + 1);
                    int kept = windows[room];
                    windows[room] = windows[with];
                    windows[with] = kept;
                }
                int themselves = 0;
                for (int room = 0; room < 6; room++) {
                    themselves += windows[room] == room ? 1 : 0;
                }
                due("cast of six", x.cast(), themselves);
                due("cast of six: SEED", x.about(4), seed);
                for (int room = 0; room < 6; room++) {
                    due("cast of six: " + room, x.room(room, 0), windows[room]);
                    due("cast of six: who shows it", x.room(windows[room], 1), room);
                }
            }
        }
    }

    // "(when it is dark, those with a lamp alone)"
    private static void hourInTheDark() {
        OtherPanes x = of(TWO + "fact f of b at 0;fact g of b at 0 lamp;fact h of b at 1;fact i of b at 2;dark 0 to 1;");
        due("dark: the lamp", x.hour(), 1);
        due("dark: which", x.room(0, 3), 2);
        due("dark: none has a lamp", x.hour(), 0);
        due("not dark", x.hour(), 1);
        due("not dark: which", x.room(0, 3), 10);
        // "all FACTS of that one at this HOUR": no other's, at no other HOUR, behind no curtain.
        OtherPanes y = of(THREE + "lot b c a;fact f of b at 0;fact g of c at 0;fact h of b at 1;");
        due("a's and b's", y.hour(), 2);
        due("a", y.room(0, 3), 1);
        due("b, with its own", y.room(1, 3), 7);
        due("c", y.room(2, 3), 2);
        OtherPanes z = of("room a joy 1;room b joy 1 curtain;fact f of b at 0 lamp;");
        due("a lamp behind a curtain", z.hour(), 0);
        due("what it KNOWS is not learnt again", of(ONE + "fact f of a at 0;").hour(), 0);
    }

    // "the HOUR is one more, behind 23 it is 0 again, the day one more"
    private static void hourBehindTwentyThree() {
        OtherPanes x = of(ONE);
        for (int i = 1; i <= 50; i++) {
            due("hour " + i, x.hour(), 0);
            due("HOUR behind " + i, x.about(2), i % 24);
            due("day behind " + i, x.about(3), i / 24);
        }
        pass(x, 22);
        due("HOUR 0", x.about(2), 0);
        x.undo();
        due("HOUR 23 again", x.about(2), 23);
        due("day 2 again", x.about(3), 2);
    }

    // "all by what each KNOWS at the beginning of this, each one KNOWS what those KNOW who tell it"
    private static void wellByWhatEachKnew() {
        for (String order : new String[] {"tells a b;tells b c;", "tells b c;tells a b;"}) {
            OtherPanes x = of("room a joy 1 curtain;room b joy 1 curtain;room c joy 1 curtain;fact f of a at 0;" + order);
            pass(x, 23);
            due("the first well", x.hour(), 1);
            due("b", x.room(1, 3), 1);
            due("c", x.room(2, 3), 0);
            pass(x, 23);
            due("the second well", x.hour(), 1);
            due("c then", x.room(2, 3), 1);
        }
        OtherPanes ring = of("room a joy 1 curtain;room b joy 1 curtain;room c joy 1 curtain;"
            + "fact f of a at 0;fact g of b at 0;fact h of c at 0;tells a b;tells b c;tells c a;");
        pass(ring, 23);
        due("a ring", ring.hour(), 3);
        due("a ring: a", ring.room(0, 3), 5);
        due("a ring: b", ring.room(1, 3), 3);
        due("a ring: c", ring.room(2, 3), 6);
        // Two who tell the same one: it is learnt once.
        OtherPanes same = of("room a joy 1;room b joy 1 curtain;room c joy 1;lot a b c;fact f of a at 0;"
            + "tells a b;tells a c;tells b c;");
        pass(same, 23);
        due("two hear it", same.hour(), 2);
        pass(same, 23);
        due("nobody anew", same.hour(), 0);
    }

    // "behind 23 .. : then": at no other HOUR
    private static void wellOncePerDay() {
        OtherPanes x = of("room a joy 1 curtain;room b joy 1;fact f of a at 23;tells a b;");
        for (int i = 0; i < 23; i++) {
            due("no well at " + i, x.hour(), 0);
        }
        due("the well", x.hour(), 1);
        // What is seen at 23 is told that same night.
        OtherPanes y = of(THREE + "lot c a b;fact f of a at 23;tells b c;");
        pass(y, 23);
        due("b sees f, and tells c", y.hour(), 2);
        due("c", y.room(2, 3), 1);
    }

    // "An HOUR: how many FACTS are learnt by all together": of none
    private static void hourOfNone() {
        OtherPanes x = of("");
        due("of none", x.hour(), 0);
        due("of none: the HOUR", x.about(2), 1);
        due("of none: an ACT", x.about(7), 1);
        StringBuilder all = new StringBuilder(SIX);
        for (int i = 0; i < 10; i++) {
            all.append("fact ").append((char) ('k' + i)).append(" of a at 23;");
        }
        for (char b = 'b'; b <= 'f'; b++) {
            all.append("tells a ").append(b).append(';');
        }
        OtherPanes full = of(all.toString());
        pass(full, 23);
        due("ten by five together", full.hour(), 50);
        due("who KNOWS", full.fact(9, 3), 63);
        due("what is known", full.room(5, 3), 1023);
    }

    // "NONE, doing nothing, if the day is above 999." (Only behind more than 512 calls: what is answered there is free.)
    private static void hourAboveDay999() {
        OtherPanes x = of(ONE);
        pass(x, 23999);
        due("day 999", x.about(3), 999);
        due("HOUR 23", x.about(2), 23);
        due("the last one", x.hour(), 0);
        due("day 1000", x.about(3), 1000);
        Checks.doesNothing("hour()", x, y -> y.hour(), NONE);
        due("a curtain still", x.curtain(0), 1);
    }

    // "false if there is none.": undo
    private static void undoOfNone() {
        OtherPanes x = of(TWO);
        Checks.answersFalse("undo() of none", x, y -> y.undo());
        x.hour();
        due("undo()", x.undo(), true);
        Checks.answersFalse("undo() of none any more", x, y -> y.undo());
        Checks.answersFalse("undo() of a new one", new OtherPanes(), y -> y.undo());
    }

    // "false if there is none.": redo
    private static void redoOfNone() {
        OtherPanes x = of(TWO);
        Checks.answersFalse("redo() of none", x, y -> y.redo());
        x.hour();
        Checks.answersFalse("redo() of one not taken back", x, y -> y.redo());
        x.undo();
        due("redo()", x.redo(), true);
        Checks.answersFalse("redo() of none any more", x, y -> y.redo());
        Checks.answersFalse("redo() of a new one", new OtherPanes(), y -> y.redo());
    }

    // "REDO does that again which was taken back last (till another ACT)"
    private static void redoTillAnotherAct() {
        for (int act = 0; act < 4; act++) {
            OtherPanes x = of(THREE);
            x.curtain(0);
            x.curtain(1);
            x.curtain(2);
            x.undo();
            x.undo();
            due("to redo", x.about(8), 2);
            due("redo", x.redo(), true);
            due("which was taken back last", x.room(1, 2), 1);
            due("not the other one", x.room(2, 2), 0);
            if (act == 0) {
                x.curtain(0);
            } else if (act == 1) {
                x.swap(0, 1);
            } else if (act == 2) {
                x.cast();
            } else {
                x.hour();
            }
            due("ACTS", x.about(7), 3);
            due("none to redo", x.about(8), 0);
            Checks.answersFalse("redo() behind another ACT", x, y -> y.redo());
        }
    }

    // "40 at most are kept, the oldest go."
    private static void fortyAreKept() {
        OtherPanes x = of(ONE);
        for (int i = 1; i <= 43; i++) {
            x.hour();
            due("ACTS behind " + i, x.about(7), Math.min(i, 40));
        }
        for (int i = 1; i <= 40; i++) {
            due("undo " + i, x.undo(), true);
            due("to undo behind " + i, x.about(7), 40 - i);
            due("to redo behind " + i, x.about(8), i);
        }
        Checks.answersFalse("the 41st undo", x, y -> y.undo());
        due("the oldest three are gone", x.about(2), 3);
        for (int i = 1; i <= 40; i++) {
            due("redo " + i, x.redo(), true);
        }
        Checks.answersFalse("the 41st redo", x, y -> y.redo());
        due("HOUR", x.about(2), 43 % 24);
        due("day", x.about(3), 1);
        // An ACT in their midst: what was taken back goes, and there is place again.
        for (int i = 0; i < 10; i++) {
            x.undo();
        }
        x.curtain(0);
        due("ACTS", x.about(7), 31);
        due("none to redo", x.about(8), 0);
        pass(x, 9);
        due("40 ACTS", x.about(7), 40);
        for (int i = 0; i < 40; i++) {
            x.undo();
        }
        due("the same oldest one", x.about(2), 3);
        due("the same oldest day", x.about(3), 0);
        // All sorts of ACTS, far beyond 40, and all the way back.
        OtherPanes y = of(SIX + "fact k of a at 1;tells a b;draw 5;");
        String[] seen = new String[90];
        for (int i = 0; i < 90; i++) {
            seen[i] = scene(y);
            int act = i % 4;
            if (act == 0) {
                y.curtain(i % 6);
            } else if (act == 1) {
                y.swap(i % 6, (i + 1) % 6);
            } else if (act == 2) {
                y.cast();
            } else {
                y.hour();
            }
        }
        for (int i = 89; i >= 50; i--) {
            due("undo", y.undo(), true);
            Checks.same("as it was before ACT " + i, scene(y), seen[i]);
        }
        due("no more", y.undo(), false);
        for (int i = 51; i < 90; i++) {
            due("redo", y.redo(), true);
            Checks.same("as it was before ACT " + i, scene(y), seen[i]);
        }
    }

    private static String scene(OtherPanes x) {
        StringBuilder s = new StringBuilder();
        for (int what = 2; what <= 4; what++) {
            s.append(x.about(what)).append(' ');
        }
        for (int room = 0; room < x.about(0); room++) {
            s.append(x.room(room, 0)).append(' ').append(x.room(room, 2)).append(' ').append(x.room(room, 3)).append(' ');
        }
        return s.toString();
    }

    // "doing nothing": what is refused is no ACT, and leaves what can be redone.
    private static void whatIsRefusedIsNoAct() {
        OtherPanes x = of(TWO);
        x.curtain(0);
        x.curtain(1);
        x.undo();
        x.curtain(2);
        x.swap(0, 0);
        x.swap(0, 2);
        x.back(0);
        due("ACTS", x.about(7), 1);
        due("to redo", x.about(8), 1);
        due("redo", x.redo(), true);
    }

    // "(By what is now; nothing is done. ..)"
    private static void whatIsAskedIsNoAct() {
        OtherPanes x = of(SIX + "fact k of a at 5;fact l of b at 23;tells a c;wants a c 5;rent joy;draw 5;");
        x.hour();
        x.curtain(3);
        x.undo();
        x.word(0, 1);
        Checks.doesNothing("when", x, y -> y.when(2, 0), 23);
        Checks.doesNothing("will", x, y -> y.will(2, 240), 3);
        Checks.doesNothing("reach", x, y -> y.reach(0), 63);
        Checks.doesNothing("deaf", x, y -> y.deaf(0), 2 + 8 + 16);
        Checks.doesNothing("gossip", x, y -> y.gossip(240), 4);
        Checks.doesNothing("hide", x, y -> y.hide(5, 0, 1), 1);
        Checks.doesNothing("proof", x, y -> y.proof(3, 1), 3);
        Checks.doesNothing("fair", x, y -> y.fair(), 265);
        Checks.doesNothing("odds", x, y -> y.odds(1, 1), 6);
        Checks.doesNothing("lots", x, y -> y.lots(0), 720);
        Checks.doesNothing("sure", x, y -> y.sure(0, 0), -2);
        Checks.doesNothing("ask", x, y -> y.ask(0, 0), 0);
    }

    // "(0: it KNOWS it already ..)"
    private static void whenAlready() {
        OtherPanes x = of(TWO + "fact f of b at 0;");
        due("its own", x.when(1, 0), 0);
        due("behind one HOUR", x.when(0, 0), 1);
        x.hour();
        due("it KNOWS it then", x.when(0, 0), 0);
        // At the HOUR that has just gone it comes a day later.
        OtherPanes y = of(TWO + "fact f of b at 0;");
        y.curtain(1);
        y.hour();
        y.curtain(1);
        due("a day later", y.when(0, 0), 24);
    }

    // "NONE if not within these"
    private static void whenNever() {
        OtherPanes x = of("room a joy 1;room b joy 2 curtain;fact f of b at 0;");
        due("behind a curtain", x.when(0, 0), NONE);
        due("in the dark", of(TWO + "fact f of b at 0;dark 0 to 0;").when(0, 0), NONE);
        due("nobody SHOWS it", of(THREE + "fact f of c at 0;").when(0, 0), NONE);
    }

    // ", or one can't be.": when
    private static void whenOneCannotBe() {
        OtherPanes x = of(TWO + "fact f of b at 0;");
        for (int none : new int[] {MIN, -1, 6, 10, 32, MAX}) {
            due("when(" + none + ", 0)", x.when(none, 0), NONE);
            due("when(0, " + none + ")", x.when(0, none), NONE);
        }
        due("when(2, 0)", x.when(2, 0), NONE);
        due("when(0, 1)", x.when(0, 1), NONE);
        due("of none", of("").when(0, 0), NONE);
    }

    // "(.. 240 at most)": the latest that can be is 120, five wells from HOUR 0 on.
    private static void whenAtTheLatest() {
        OtherPanes x = of("room a joy 1 curtain;room b joy 1 curtain;room c joy 1 curtain;room d joy 1 curtain;"
            + "room e joy 1 curtain;room f joy 1 curtain;fact k of a at 0;"
            + "tells a b;tells b c;tells c d;tells d e;tells e f;");
        for (int room = 0; room < 6; room++) {
            due("when(" + room + ", 0)", x.when(room, 0), 24 * room);
        }
        due("will(5, 119)", x.will(5, 119), 0);
        due("will(5, 120)", x.will(5, 120), 1);
        due("deaf(0)", x.deaf(0), 0);
        due("gossip(119)", x.gossip(119), 4);
        due("gossip(120)", x.gossip(120), 5);
    }

    // "behind n HOURS (0 .. 240)"
    private static void willOfNoHours() {
        OtherPanes x = of(TWO + "fact f of b at 0;fact g of a at 23;");
        due("will(0, 0)", x.will(0, 0), 2);
        due("will(0, 1)", x.will(0, 1), 3);
        due("will(1, 23)", x.will(1, 23), 1);
        due("will(1, 24)", x.will(1, 24), 3);
        due("will(1, 240)", x.will(1, 240), 3);
        due("a ROOM without FACTS", of(THREE).will(2, 240), 0);
    }

    // "NONE if one can't be.": will
    private static void willOfOneThatCannotBe() {
        OtherPanes x = of(TWO + "fact f of b at 0;");
        for (int n : new int[] {MIN, -1, 241, 242, MAX}) {
            due("will(0, " + n + ")", x.will(0, n), NONE);
        }
        for (int room : new int[] {MIN, -1, 2, 6, 32, MAX}) {
            due("will(" + room + ", 0)", x.will(room, 0), NONE);
        }
    }

    // "how many steps (0: both are one)"
    private static void wordOfOneAndTheSame() {
        OtherPanes x = of("room a joy 1 curtain;room b joy 2;");
        due("word(0, 0)", x.word(0, 0), 0);
        Checks.laid("word(0, 0)", x, 0);
        due("word(1, 1)", x.word(1, 1), 0);
        Checks.laid("word(1, 1)", x, 1);
    }

    // "NONE if it never comes .. (behind NONE: nothing)"
    private static void wordThatNeverComes() {
        OtherPanes x = of("room a joy 1 curtain;room b joy 2;room c joy 3;lot b a c;");
        due("word(1, 0)", x.word(1, 0), 1);
        Checks.laid("word(1, 0)", x, 1, 0);
        due("behind a curtain: word(0, 1)", x.word(0, 1), NONE);
        Checks.laid("behind a curtain: word(0, 1)", x);
        x.word(1, 0);
        due("another ring: word(1, 2)", x.word(1, 2), NONE);
        Checks.laid("another ring: word(1, 2)", x);
        x.best();
        due("another ring: word(2, 1)", x.word(2, 1), NONE);
        Checks.laid("another ring: word(2, 1)", x);
    }

    // ", or one can't be.": word
    private static void wordOfOneThatCannotBe() {
        OtherPanes x = of(TWO);
        for (int room : new int[] {MIN, -1, 2, 6, 32, MAX}) {
            x.word(0, 1);
            due("word(" + room + ", 0)", x.word(room, 0), NONE);
            Checks.laid("word(" + room + ", 0)", x);
            x.best();
            due("word(0, " + room + ")", x.word(0, room), NONE);
            Checks.laid("word(0, " + room + ")", x);
            x.rings();
            due("word(" + room + ", " + room + ")", x.word(room, room), NONE);
            Checks.laid("word(" + room + ", " + room + ")", x);
        }
    }

    // "the fewest steps": round six ROOMS
    private static void wordByTheFewestSteps() {
        OtherPanes x = of(SIX);
        for (int room = 0; room < 6; room++) {
            for (int other = 0; other < 6; other++) {
                int steps = (room - other + 6) % 6;
                due("word(" + room + ", " + other + ")", x.word(room, other), steps);
                int[] way = new int[steps + 1];
                for (int i = 0; i <= steps; i++) {
                    way[i] = (room - i + 6) % 6;
                }
                Checks.laid("word(" + room + ", " + other + ")", x, way);
            }
        }
    }

    // "Whom WORD from a ROOM reaches, it, too, as bits"
    private static void reachOfItself() {
        OtherPanes x = of("room a joy 1 curtain;room b joy 2;room c joy 3;lot b a c;");
        due("behind its curtain: itself", x.reach(0), 1);
        due("one more", x.reach(1), 3);
        due("it SEES itself alone", x.reach(2), 4);
        due("all six", of(SIX).reach(3), 63);
    }

    // "NONE if there is none such.": reach
    private static void reachOfNoRoom() {
        OtherPanes x = of(TWO);
        for (int room : new int[] {MIN, -1, 2, 6, 32, MAX}) {
            due("reach(" + room + ")", x.reach(room), NONE);
        }
    }

    // "How many FACTS of a ROOM others KNOW, each as often as one KNOWS it"
    private static void harmByOthers() {
        OtherPanes x = of(THREE + "fact f of a at 0;fact g of a at 23;fact h of b at 0;tells c b;");
        due("its own KNOWING does not count", x.harm(0), 0);
        x.hour();
        due("c KNOWS f", x.harm(0), 1);
        pass(x, 23);
        due("b and c KNOW f and g", x.harm(0), 4);
        due("a KNOWS h", x.harm(1), 1);
        due("c has none", x.harm(2), 0);
    }

    // "NONE if there is none such.": harm
    private static void harmOfNoRoom() {
        OtherPanes x = of(TWO);
        for (int room : new int[] {MIN, -1, 2, 6, 32, MAX}) {
            due("harm(" + room + ")", x.harm(room), NONE);
        }
    }

    // "NONE if there is none such.": deaf
    private static void deafOfNoFact() {
        OtherPanes x = of(TWO + "fact f of b at 0;");
        for (int fact : new int[] {MIN, -1, 1, 10, 32, MAX}) {
            due("deaf(" + fact + ")", x.deaf(fact), NONE);
        }
        due("nobody is", x.deaf(0), 0);
        x.curtain(1);
        due("a is", x.deaf(0), 1);
        due("all but its own", of(SIX + "fact f of f at 1;dark 1 to 1;").deaf(0), 31);
    }

    // "behind n HOURS (0 .. 240)": gossip
    private static void gossipOfNoHours() {
        OtherPanes x = of(TWO + "fact f of b at 0;fact g of a at 23;");
        due("gossip(0)", x.gossip(0), 0);
        due("gossip(1)", x.gossip(1), 1);
        due("gossip(23)", x.gossip(23), 1);
        due("gossip(24)", x.gossip(24), 2);
        due("gossip(240)", x.gossip(240), 2);
        x.hour();
        due("more than now", x.gossip(240), 1);
        due("of none", of("").gossip(240), 0);
    }

    // "NONE for another n."
    private static void gossipOfAnotherNumber() {
        OtherPanes x = of(TWO + "fact f of b at 0;");
        for (int n : new int[] {MIN, -1, 241, 242, MAX}) {
            due("gossip(" + n + ")", x.gossip(n), NONE);
        }
    }

    // "How many twos of unlike ROOMS SEE one another."
    private static void mutualOfUnlike() {
        due("of none", of("").mutual(), 0);
        due("itself is no two", of(ONE).mutual(), 0);
        OtherPanes x = of(SIX + "lot b a d c f e;");
        due("three twos", x.mutual(), 3);
        x.curtain(0);
        due("one of them behind a curtain", x.mutual(), 2);
        x.curtain(1);
        due("both of them", x.mutual(), 2);
        x.curtain(0);
        due("the other one", x.mutual(), 2);
        x.curtain(1);
        due("neither", x.mutual(), 3);
        x.swap(0, 1);
        due("each itself", x.mutual(), 2);
    }

    // "What lies ahead goes on as told beyond the last one that can be done, too." (Only behind more than 512 calls.)
    private static void aheadBeyondTheLast() {
        OtherPanes late = of("room a joy 1;room b joy 1 curtain;room c joy 1;lot b a c;fact f of b at 3;fact g of c at 0;");
        pass(late, 24000);
        due("no HOUR more", late.hour(), NONE);
        due("b's curtain is taken away", late.curtain(1), 0);
        due("when(0, 0)", late.when(0, 0), 4);
        due("will(0, 4)", late.will(0, 4), 1);
        due("gossip(4)", late.gossip(4), 1);
        due("deaf(0): c SHOWS itself", late.deaf(0), 4);
        due("hide(0, 0)", late.hide(0, 0, 1), 2);
    }
}
