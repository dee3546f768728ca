/**
 * The boundary cases of AIMS, better lots, PROOF, HIDE, GLIMPSES, BOXES and about (Terms ==== 3
 * and ==== 4, promises 25 to 43): each method is one sentence of the document, which stands above it.
 */
public final class PlanEdgesTest {
    private static final int NONE = OtherPanes.NONE;
    private static final int MIN = Integer.MIN_VALUE;
    private static final int MAX = Integer.MAX_VALUE;

    private static final String ONE = "room a joy 1;";
    private static final String TWO = ONE + "room b joy 2;";
    private static final String THREE = TWO + "room c joy 3;";
    private static final String FOUR = THREE + "room d joy 4;";
    private static final String SIX = FOUR + "room e joy 5;room f joy 6;";
    private static final int[] NOBODY = {MIN, -1, 3, 6, 32, MAX};

    public static void main(String[] args) {
        aims();
        betterLots();
        proofAndHide();
        glimpses();
        boxesAndAbout();
        Checks.finish("PlanEdgesTest");
    }

    private static void aims() {
        noAimsAtFirst();
        aimInPlaceOfTheOneItHad();
        aimOfOneThatCannotBe();
        aimAtTheSame();
        dropOfNone();
    }

    private static void betterLots() {
        swapsOfNoAims();
        swapsOfItself();
        swapsAreTheFewest();
        ringsOfLikeWants();
        ringsAgainAndAgain();
        bestOfLikeLots();
        lotsOfNoRooms();
        oddsFromNoughtToSix();
        oddsInLowestTerms();
        oddsThatCannotBe();
        fairOfFewRooms();
        fairWithAims();
    }

    private static void proofAndHide() {
        proofOfNothing();
        proofOfLikeOnes();
        proofThatAllTogetherDoNot();
        proofThatCannotBe();
        hideFromOneWhoKnows();
        hideByNoCurtains();
        hideByOneCurtain();
        hideBehindADrawnCurtain();
        hideWithin120Hours();
        hideThatCannotBe();
        liesOfNothing();
    }

    private static void glimpses() {
        thirtyGlimpses();
        glimpseOfOneThatCannotBe();
        untellOnce();
        untellOfNone();
        untoldAtTheSameTime();
        laterByNoughtToAThousand();
        laterAbove100000();
        asKnownAtK();
        lotsWithoutRooms();
        lotsOfNone();
        sureOfTheSame();
        sureOfNoRoom();
        askTheFirst();
        askOfNone();
        askOfAnotherWhat();
    }

    private static void boxesAndAbout() {
        imageOfNoBox();
        imageAgain();
        backOfNothing();
        backAsItWasKept();
        backKeepsNoActs();
        aboutOfAnotherWhat();
        aboutWhenFull();
        fiveHundredTwelveCalls();
    }

    private static void due(String what, long got, long want) {
        Checks.due(what, got, want);
    }

    private static void due(String what, boolean got, boolean want) {
        Checks.due(what, got, want);
    }

    private static OtherPanes of(String text) {
        return Checks.quarter(text);
    }

    // "AIMS are set (none at first)"
    private static void noAimsAtFirst() {
        OtherPanes x = of(SIX);
        due("AIMS", x.about(6), 0);
        for (int room = 0; room < 6; room++) {
            Checks.answersFalse("drop(" + room + ")", x, drop(room));
        }
    }

    private static Checks.ToTruth drop(int room) {
        return x -> x.drop(room);
    }

    private static Checks.ToTruth aim(int room, int other) {
        return x -> x.aim(room, other);
    }

    // "An AIM is set (in place of the one it had): true"; "another one, or itself"
    private static void aimInPlaceOfTheOneItHad() {
        OtherPanes x = of(THREE);
        due("itself", x.aim(0, 0), true);
        due("another one", x.aim(0, 1), true);
        due("the same again", x.aim(0, 1), true);
        due("one AIM", x.about(6), 1);
        due("fair", x.fair(), 1);
        due("what it had is free", x.aim(1, 0), true);
        due("two AIMS", x.about(6), 2);
        due("all", x.aim(2, 2), true);
        due("three AIMS", x.about(6), 3);
    }

    // "false if one can't be"
    private static void aimOfOneThatCannotBe() {
        OtherPanes x = of(THREE);
        x.aim(0, 1);
        for (int none : NOBODY) {
            Checks.answersFalse("aim(" + none + ", 0)", x, aim(none, 0));
            Checks.answersFalse("aim(0, " + none + ")", x, aim(0, none));
            Checks.answersFalse("aim(" + none + ", " + none + ")", x, aim(none, none));
        }
        due("of none", of("").aim(0, 0), false);
    }

    // ", or another ROOM aims at the same."
    private static void aimAtTheSame() {
        OtherPanes x = of(THREE);
        x.aim(0, 1);
        x.aim(2, 0);
        Checks.answersFalse("aim(1, 1)", x, aim(1, 1));
        Checks.answersFalse("aim(2, 1)", x, aim(2, 1));
        Checks.answersFalse("aim(0, 0)", x, aim(0, 0));
        x.drop(0);
        due("it is free again", x.aim(1, 1), true);
    }

    // "An AIM goes: true; false if there is none."
    private static void dropOfNone() {
        OtherPanes x = of(THREE);
        x.aim(1, 0);
        Checks.answersFalse("drop(0): it is only aimed at", x, drop(0));
        for (int none : NOBODY) {
            Checks.answersFalse("drop(" + none + ")", x, drop(none));
        }
        due("drop(1)", x.drop(1), true);
        Checks.answersFalse("drop(1) again", x, drop(1));
        due("no AIMS", x.about(6), 0);
    }

    // "SWAPS: how many. What each ROOM would SHOW lies there then.": without AIMS
    private static void swapsOfNoAims() {
        OtherPanes x = of(FOUR + "lot c a d b;");
        due("no AIMS", x.swaps(), 0);
        Checks.laid("no AIMS", x, 2, 0, 3, 1);
        x.aim(0, 2);
        due("it holds already", x.swaps(), 0);
        Checks.laid("it holds already", x, 2, 0, 3, 1);
    }

    // "a ROOM's window is to SHOW another one, or itself"
    private static void swapsOfItself() {
        OtherPanes one = of(ONE);
        one.aim(0, 0);
        due("one alone", one.swaps(), 0);
        Checks.laid("one alone", one, 0);
        OtherPanes x = of(SIX);
        for (int room = 0; room < 6; room++) {
            x.aim(room, room);
        }
        due("each itself", x.swaps(), 5);
        Checks.laid("each itself", x, 0, 1, 2, 3, 4, 5);
    }

    // "the fewest swaps of two windows by which all AIMS hold"
    private static void swapsAreTheFewest() {
        OtherPanes x = of(SIX + "lot a b c d e f;");
        x.aim(0, 1);
        due("one", x.swaps(), 1);
        Checks.laid("one", x, 1, 0, 2, 3, 4, 5);
        x.aim(1, 2);
        due("two in one ring", x.swaps(), 2);
        Checks.laid("two in one ring", x, 1, 2, 0, 3, 4, 5);
        x.aim(5, 4);
        due("two rings", x.swaps(), 3);
        Checks.laid("two rings", x, 1, 2, 0, 3, 5, 4);
        x.aim(4, 3);
        due("two rings of three", x.swaps(), 4);
        Checks.laid("two rings of three", x, 1, 2, 0, 5, 3, 4);
        x.aim(2, 5);
        due("one ring of six", x.swaps(), 5);
        Checks.laid("one ring of six", x, 1, 2, 5, 0, 3, 4);
        due("nothing is done", x.room(0, 0), 0);
        due("no ACT", x.about(7), 0);
        x.swap(0, 5);
        // By windows as they are then: f b c d e a.
        due("from what is now", x.swaps(), 4);
        Checks.laid("from what is now", x, 1, 2, 5, 0, 3, 4);
    }

    // "(0 if not told; of like ones the one whose window SHOWS the lowest ROOM)"
    private static void ringsOfLikeWants() {
        OtherPanes none = of(FOUR + "lot d c b a;");
        due("no wants", none.rings(), 0);
        // All point to d, whose window SHOWS a: d keeps it; then to c, and so on.
        Checks.laid("no wants", none, 3, 2, 1, 0);
        OtherPanes like = of(THREE + "lot a b c;wants a b 5;wants a c 5;wants b a 1;wants c a 1;");
        due("like ones", like.rings(), 6);
        Checks.laid("like ones", like, 1, 0, 2);
        OtherPanes nought = of(THREE + "lot b a c;wants a b 0;wants b a 0;wants c c 0;");
        due("0 told is as 0 not told", nought.rings(), 0);
        Checks.laid("0 told is as 0 not told", nought, 1, 0, 2);
    }

    // "again and again, of ROOMS that are left .. those who point round have what they point to, and go"
    private static void ringsAgainAndAgain() {
        OtherPanes x = of(FOUR + "lot a b c d;wants a a 9;wants b a 9;wants b b 5;wants c a 9;wants c b 8;wants c c 1;"
            + "wants d a 9;wants d b 8;wants d c 7;");
        due("one after another", x.rings(), 9 + 5 + 1);
        Checks.laid("one after another", x, 0, 1, 2, 3);
        OtherPanes six = of(SIX + "wants a c 1;wants b d 1;wants c e 1;wants d f 1;wants e a 1;wants f b 1;");
        due("two rings at once", six.rings(), 6);
        Checks.laid("two rings at once", six, 2, 3, 4, 5, 0, 1);
        OtherPanes all = of(SIX + "lot a b c d e f;wants a b 99;wants b c 99;wants c d 99;wants d e 99;wants e f 99;wants f a 99;");
        due("one of six", all.rings(), 594);
        Checks.laid("one of six", all, 1, 2, 3, 4, 5, 0);
    }

    // "BEST: the lot in which wants together are most; of like ones the first."
    private static void bestOfLikeLots() {
        OtherPanes none = of(FOUR + "lot d c b a;");
        due("no wants", none.best(), 0);
        Checks.laid("no wants", none, 0, 1, 2, 3);
        OtherPanes like = of(THREE + "wants a b 5;wants a c 5;");
        due("like ones", like.best(), 5);
        Checks.laid("like ones", like, 1, 0, 2);
        OtherPanes last = of(THREE + "wants a c 1;wants b b 1;wants c a 1;");
        due("the last lot", last.best(), 3);
        Checks.laid("the last lot", last, 2, 1, 0);
        StringBuilder all = new StringBuilder(SIX);
        for (char a = 'a'; a <= 'f'; a++) {
            all.append("wants ").append(a).append(' ').append((char) ('a' + 'f' - a)).append(" 99;");
        }
        OtherPanes most = of(all.toString());
        due("the most", most.best(), 594);
        Checks.laid("the most", most, 5, 4, 3, 2, 1, 0);
    }

    // "What each ROOM would SHOW lies there then.": of none, and of one
    private static void lotsOfNoRooms() {
        OtherPanes x = of("");
        due("swaps of none", x.swaps(), 0);
        Checks.laid("swaps of none", x);
        due("rings of none", x.rings(), 0);
        Checks.laid("rings of none", x);
        due("best of none", x.best(), 0);
        Checks.laid("best of none", x);
        OtherPanes one = of(ONE + "wants a a 7;");
        due("swaps of one", one.swaps(), 0);
        due("rings of one", one.rings(), 7);
        due("best of one", one.best(), 7);
        Checks.laid("best of one", one, 0);
    }

    // "ODDS of n: that by an even lot n at least SHOW a ROOM that they want by 1 or more."
    private static void oddsFromNoughtToSix() {
        OtherPanes x = of(THREE + "wants a a 1;wants b b 1;wants c c 0;");
        due("0 at least", x.odds(0, 0), 1);
        due("0 at least", x.odds(0, 1), 1);
        due("1 at least: 3 of 6", x.odds(1, 0), 1);
        due("1 at least: 3 of 6", x.odds(1, 1), 2);
        due("2 at least: 1 of 6", x.odds(2, 0), 1);
        due("2 at least: 1 of 6", x.odds(2, 1), 6);
        for (int n = 3; n <= 6; n++) {
            due("0 of 1", x.odds(n, 0), 0);
            due("0 of 1", x.odds(n, 1), 1);
        }
        OtherPanes all = of(TWO + "wants a a 1;wants a b 99;wants b a 1;wants b b 1;");
        due("always", all.odds(2, 0), 1);
        due("always", all.odds(2, 1), 1);
        due("of no ROOMS: 0 at least", of("").odds(0, 0), 1);
        due("of no ROOMS: 1 at least", of("").odds(1, 0), 0);
        due("of no ROOMS: 6 at least", of("").odds(6, 1), 1);
    }

    // "in lowest terms (0 of 1)"
    private static void oddsInLowestTerms() {
        StringBuilder each = new StringBuilder(SIX);
        for (char a = 'a'; a <= 'f'; a++) {
            each.append("wants ").append(a).append(' ').append(a).append(" 1;");
        }
        OtherPanes x = of(each.toString());
        // Of 720: 720, 455, 191, 56, 16, 1, 1.
        int[][] want = {{1, 1}, {91, 144}, {191, 720}, {7, 90}, {1, 45}, {1, 720}, {1, 720}};
        for (int n = 0; n <= 6; n++) {
            due("odds(" + n + ", 0)", x.odds(n, 0), want[n][0]);
            due("odds(" + n + ", 1)", x.odds(n, 1), want[n][1]);
        }
    }

    // "NONE if one can't be.": odds
    private static void oddsThatCannotBe() {
        OtherPanes x = of(TWO);
        for (int n : new int[] {MIN, -1, 7, 8, MAX}) {
            due("odds(" + n + ", 0)", x.odds(n, 0), NONE);
            due("odds(" + n + ", 1)", x.odds(n, 1), NONE);
        }
        for (int part : new int[] {MIN, -1, 2, 3, MAX}) {
            due("odds(0, " + part + ")", x.odds(0, part), NONE);
        }
    }

    // "In how many lots nobody's window SHOWS itself"
    private static void fairOfFewRooms() {
        int[] want = {1, 0, 1, 2, 9, 44, 265};
        for (int rooms = 0; rooms <= 6; rooms++) {
            due("fair of " + rooms, of(SIX.substring(0, 13 * rooms)).fair(), want[rooms]);
        }
    }

    // ", and all AIMS hold."
    private static void fairWithAims() {
        OtherPanes x = of(FOUR);
        x.aim(0, 1);
        due("one AIM", x.fair(), 3);
        x.aim(1, 0);
        due("two AIMS", x.fair(), 1);
        x.aim(2, 3);
        due("three AIMS", x.fair(), 1);
        x.drop(0);
        x.drop(1);
        x.drop(2);
        x.aim(3, 3);
        due("one aims at itself", x.fair(), 0);
    }

    // "PROOF of a set of FACTS: the fewest ROOMS who KNOW these together": of none
    private static void proofOfNothing() {
        OtherPanes x = of(TWO + "fact f of b at 0;");
        due("how many", x.proof(0, 0), 0);
        due("which", x.proof(0, 1), 0);
        due("of no ROOMS", of("").proof(0, 0), 0);
        due("of no ROOMS", of("").proof(0, 1), 0);
    }

    // "of like ones the least set as bits"
    private static void proofOfLikeOnes() {
        OtherPanes x = of(FOUR + "fact f of d at 0;fact g of c at 0;fact h of a at 0;fact i of b at 0;");
        due("d alone", x.proof(1, 1), 8);
        x.hour();
        // a KNOWS h, i; b i, g; c g, f; d f, h.
        due("f: c or d", x.proof(1, 1), 4);
        due("g: b or c", x.proof(2, 1), 2);
        due("h: a or d", x.proof(4, 1), 1);
        due("all: how many", x.proof(15, 0), 2);
        due("all: a and c, or b and d", x.proof(15, 1), 5);
        due("f and i: a and c, b and c, a and d, b and d", x.proof(9, 1), 5);
        StringBuilder full = new StringBuilder(SIX);
        for (int i = 0; i < 10; i++) {
            full.append("fact ").append((char) ('k' + i)).append(" of ").append((char) ('a' + i % 6)).append(" at 9;");
        }
        due("all ten: how many", of(full.toString()).proof(1023, 0), 6);
        due("all ten: which", of(full.toString()).proof(1023, 1), 63);
    }

    // "NONE if all together don't": each FACT has a ROOM that KNOWS it, so only what is no FACT is so.
    private static void proofThatAllTogetherDoNot() {
        OtherPanes x = of(TWO + "fact f of b at 0;fact g of a at 0;");
        due("a third FACT", x.proof(4, 0), NONE);
        due("a third FACT, too", x.proof(7, 1), NONE);
        due("without FACTS", of(TWO).proof(1, 0), NONE);
        due("without ROOMS", of("").proof(1, 1), NONE);
    }

    // ", or one can't be.": proof
    private static void proofThatCannotBe() {
        OtherPanes x = of(TWO + "fact f of b at 0;");
        for (int set : new int[] {MIN, MIN + 1, -1, 2, 3, 1024, MAX}) {
            due("proof(" + set + ", 0)", x.proof(set, 0), NONE);
            due("proof(" + set + ", 1)", x.proof(set, 1), NONE);
        }
        for (int what : new int[] {MIN, -1, 2, 3, MAX}) {
            due("proof(1, " + what + ")", x.proof(1, what), NONE);
            due("proof(0, " + what + ")", x.proof(0, what), NONE);
        }
    }

    // "(or it KNOWS it already)"
    private static void hideFromOneWhoKnows() {
        OtherPanes x = of(TWO + "fact f of b at 0;");
        due("its own", x.hide(1, 0, 0), NONE);
        due("its own", x.hide(1, 0, 1), NONE);
        due("not yet", x.hide(0, 0, 0), 1);
        x.hour();
        due("learnt", x.hide(0, 0, 0), NONE);
        due("learnt", x.hide(0, 0, 1), NONE);
    }

    // "the fewest ROOMS": none
    private static void hideByNoCurtains() {
        OtherPanes x = of(THREE + "fact f of c at 0;fact g of b at 5;dark 5 to 5;");
        due("a never learns f: how many", x.hide(0, 0, 0), 0);
        due("a never learns f: which", x.hide(0, 0, 1), 0);
        due("g is in the dark", x.hide(0, 1, 0), 0);
    }

    // "how many, 1: which, as bits"
    private static void hideByOneCurtain() {
        OtherPanes x = of(SIX + "fact k of f at 0;tells e d;tells d c;");
        for (int room = 2; room <= 4; room++) {
            due("from " + room + ": how many", x.hide(room, 0, 0), 1);
            due("from " + room + ": which", x.hide(room, 0, 1), 32);
        }
        due("from one who does not hear it", x.hide(0, 0, 0), 0);
        due("nothing is done", x.room(5, 2), 0);
    }

    // "(3 at most, without a curtain drawn)"; "NONE if 3 are not enough"
    private static void hideBehindADrawnCurtain() {
        OtherPanes x = of("room a joy 1;room b joy 1 curtain;room c joy 1;fact f of b at 0;tells b c;");
        due("from a, who does not SEE b", x.hide(0, 0, 0), 0);
        due("b tells c", x.hide(2, 0, 0), NONE);
        due("b tells c", x.hide(2, 0, 1), NONE);
        OtherPanes y = of(TWO + "fact f of b at 0;tells b a;");
        due("both ways", y.hide(0, 0, 0), NONE);
    }

    // "so that it does not KNOW it within 120 HOURS"
    private static void hideWithin120Hours() {
        String chain = "fact k of a at 0;tells a b;tells b c;tells c d;tells d e;tells e f;";
        OtherPanes x = of(SIX + "lot a b c d e f;" + chain);
        due("it comes behind 120", x.when(5, 0), 120);
        due("that is within", x.hide(5, 0, 0), NONE);
        OtherPanes y = of(SIX + "lot a b c d e f;" + chain.replace("tells e f;", ""));
        due("it never comes", y.hide(5, 0, 0), 0);
    }

    // ", or one can't be.": hide
    private static void hideThatCannotBe() {
        OtherPanes x = of(THREE + "fact f of b at 0;");
        for (int none : NOBODY) {
            due("hide(" + none + ", 0, 0)", x.hide(none, 0, 0), NONE);
            due("hide(0, " + none + ", 0)", x.hide(0, none, 0), NONE);
        }
        due("hide(0, 1, 0)", x.hide(0, 1, 0), NONE);
        for (int what : new int[] {MIN, -1, 2, 3, MAX}) {
            due("hide(0, 0, " + what + ")", x.hide(0, 0, what), NONE);
            due("hide(2, 0, " + what + ")", x.hide(2, 0, what), NONE);
        }
        due("of none", of("").hide(0, 0, 0), NONE);
    }

    // "The i-th number of what lies there; NONE if there is none such."
    private static void liesOfNothing() {
        OtherPanes x = of(SIX);
        Checks.laid("at first", x);
        x.best();
        Checks.laid("six", x, 0, 1, 2, 3, 4, 5);
        for (int i : new int[] {MIN, -1, 6, 7, MAX}) {
            due("lies(" + i + ")", x.lies(i), NONE);
        }
        x.word(2, 1);
        Checks.laid("fewer", x, 2, 1);
        x.word(2, 9);
        Checks.laid("nothing", x);
        x.rings();
        x.hour();
        x.undo();
        x.aim(0, 0);
        x.glimpse(0, 0, true);
        x.later(1);
        x.image(0);
        due("what else is done leaves it", x.about(13), 6);
        due("first: each keeps what it has", x.lies(0), 1);
    }

    // "GLIMPSES, 30 at most"; "NONE, doing nothing, if .. there are 30."
    private static void thirtyGlimpses() {
        OtherPanes x = of(THREE);
        for (int i = 0; i < 30; i++) {
            due("GLIMPSE " + i, x.glimpse(i % 3, 0, false), i);
            due("GLIMPSES", x.about(9), i + 1);
        }
        Checks.doesNothing("the 31st", x, y -> y.glimpse(0, 1, true), NONE);
        due("untell(0)", x.untell(0), true);
        Checks.doesNothing("UNTOLD ones are there, too", x, y -> y.glimpse(0, 1, true), NONE);
        due("no lots: none SHOWS a", x.lots(0), 0);
        // The last of thirty counts as the first does.
        OtherPanes y = of(TWO);
        for (int i = 0; i < 29; i++) {
            y.glimpse(0, 1, true);
        }
        due("the last one", y.glimpse(0, 1, false), 29);
        due("against all others", y.lots(0), 0);
        due("untell(29)", y.untell(29), true);
        due("all others", y.lots(0), 1);
    }

    // "NONE, doing nothing, if one can't be"
    private static void glimpseOfOneThatCannotBe() {
        OtherPanes x = of(THREE);
        x.glimpse(0, 0, true);
        for (int none : NOBODY) {
            Checks.doesNothing("glimpse(" + none + ", 0)", x, y -> y.glimpse(none, 0, true), NONE);
            Checks.doesNothing("glimpse(0, " + none + ")", x, y -> y.glimpse(0, none, false), NONE);
        }
        due("the next one", x.glimpse(1, 1, true), 1);
        due("of none", of("").glimpse(0, 0, true), NONE);
    }

    private static Checks.ToTruth untell(int glimpse) {
        return x -> x.untell(glimpse);
    }

    // "It is UNTOLD: true; false if it is so already"
    private static void untellOnce() {
        OtherPanes x = of(THREE);
        x.glimpse(0, 1, true);
        x.later(3);
        due("untell(0)", x.untell(0), true);
        x.later(3);
        Checks.answersFalse("untell(0) again", x, untell(0));
        due("it was UNTOLD at 3", x.lots(3), 6);
        due("it counted till then", x.lots(2), 2);
    }

    // ", or there is none such.": untell
    private static void untellOfNone() {
        OtherPanes x = of(THREE);
        Checks.answersFalse("untell(0) of none", x, untell(0));
        x.glimpse(0, 1, true);
        for (int none : new int[] {MIN, -1, 1, 30, 31, 32, MAX}) {
            Checks.answersFalse("untell(" + none + ")", x, untell(none));
        }
    }

    // "UNTOLD at a later one or the same"
    private static void untoldAtTheSameTime() {
        OtherPanes x = of(THREE);
        x.glimpse(0, 1, true);
        due("it counts", x.lots(0), 2);
        x.untell(0);
        due("at no TIME", x.lots(0), 6);
        due("at no TIME", x.lots(-1), 6);
        due("at no TIME", x.lots(1), 6);
    }

    // "So much later (0 .. 1000): the TIME; NONE, doing nothing, for another number"
    private static void laterByNoughtToAThousand() {
        OtherPanes x = of(TWO);
        due("0 at first", x.about(10), 0);
        due("later(0)", x.later(0), 0);
        due("later(1)", x.later(1), 1);
        due("later(1000)", x.later(1000), 1001);
        for (int by : new int[] {MIN, -1000, -1, 1001, 100000, MAX}) {
            Checks.doesNothing("later(" + by + ")", x, y -> y.later(by), NONE);
        }
    }

    // ", or if it would be above 100,000."
    private static void laterAbove100000() {
        OtherPanes x = of(TWO);
        for (int i = 0; i < 99; i++) {
            x.later(1000);
        }
        due("later(1)", x.later(1), 99001);
        Checks.doesNothing("later(1000)", x, y -> y.later(1000), NONE);
        due("later(999)", x.later(999), 100000);
        Checks.doesNothing("later(1)", x, y -> y.later(1), NONE);
        due("later(0)", x.later(0), 100000);
        due("a GLIMPSE at the last TIME", x.glimpse(0, 0, true), 0);
        due("before", x.lots(99999), 2);
        due("then", x.lots(100000), 1);
    }

    // "As known at k those count that were TOLD at k or before, not UNTOLD at k or before."
    private static void asKnownAtK() {
        OtherPanes x = of(THREE);
        x.later(10);
        x.glimpse(0, 1, true);
        x.later(10);
        x.untell(0);
        int[] ks = {MIN, -1, 0, 9, 10, 11, 19, 20, 21, 100000, MAX};
        int[] want = {6, 6, 6, 6, 2, 2, 2, 6, 6, 6, 6};
        for (int i = 0; i < ks.length; i++) {
            due("lots(" + ks[i] + ")", x.lots(ks[i]), want[i]);
            due("sure(0, " + ks[i] + ")", x.sure(0, ks[i]), want[i] == 2 ? 1 : -2);
            due("ask(0, " + ks[i] + ")", x.ask(0, ks[i]), want[i] == 2 ? 1 : 0);
            due("ask(1, " + ks[i] + ")", x.ask(1, ks[i]), want[i] == 2 ? 1 : 2);
        }
    }

    // "LOTS: how many (1 without ROOMS)."
    private static void lotsWithoutRooms() {
        int[] want = {1, 1, 2, 6, 24, 120, 720};
        for (int rooms = 0; rooms <= 6; rooms++) {
            due("lots of " + rooms, of(SIX.substring(0, 13 * rooms)).lots(0), want[rooms]);
        }
        due("lots of a new one", new OtherPanes().lots(0), 1);
    }

    // "LOTS: lots by which all that count are so.": none
    private static void lotsOfNone() {
        OtherPanes x = of(THREE);
        x.glimpse(0, 1, true);
        x.glimpse(0, 1, false);
        due("it was, and was not", x.lots(0), 0);
        OtherPanes y = of(THREE);
        y.glimpse(0, 1, true);
        y.glimpse(1, 1, true);
        due("two SHOWED the same", y.lots(0), 0);
        OtherPanes z = of(ONE);
        z.glimpse(0, 0, false);
        due("the only lot was not", z.lots(0), 0);
        due("of it: sure", z.sure(0, 0), NONE);
        due("of it: ask", z.ask(0, 0), NONE);
    }

    // "SURE: the ROOM; -2 if it is not the same in all; NONE if there are no LOTS"
    private static void sureOfTheSame() {
        OtherPanes x = of(THREE);
        due("not the same", x.sure(0, 0), -2);
        x.glimpse(0, 0, false);
        x.glimpse(0, 1, false);
        due("by what it was not", x.sure(0, 0), 2);
        due("not the same", x.sure(1, 0), -2);
        x.glimpse(1, 0, false);
        due("b", x.sure(1, 0), 1);
        due("c, by the others", x.sure(2, 0), 0);
        x.glimpse(2, 0, false);
        for (int room = 0; room < 3; room++) {
            due("no LOTS: sure(" + room + ")", x.sure(room, 0), NONE);
        }
        due("one alone", of(ONE).sure(0, 0), 0);
    }

    // ", or there is no such ROOM.": sure
    private static void sureOfNoRoom() {
        OtherPanes x = of(THREE);
        for (int none : NOBODY) {
            due("sure(" + none + ", 0)", x.sure(none, 0), NONE);
        }
        due("without ROOMS", of("").sure(0, 0), NONE);
    }

    // "would leave the fewest of these at the most; of like ones the first"
    private static void askTheFirst() {
        OtherPanes x = of(SIX);
        due("like ones", x.ask(0, 0), 0);
        due("left at the most", x.ask(1, 0), 120);
        x.glimpse(0, 3, true);
        due("not of what is known", x.ask(0, 0), 1);
        due("left at the most", x.ask(1, 0), 24);
        OtherPanes y = of(THREE);
        y.glimpse(0, 0, false);
        // Lots: bac, bca, cab, cba: a leaves 2, b leaves 2 (a), c leaves 2 (a).
        due("like ones", y.ask(0, 0), 0);
        due("left", y.ask(1, 0), 2);
        y.glimpse(2, 2, false);
        // Lots: bca, cab, cba: a and c leave 2, b leaves 1.
        due("the fewest", y.ask(0, 0), 1);
        due("left", y.ask(1, 0), 1);
        due("one alone", of(ONE).ask(0, 0), 0);
        due("one alone: left", of(ONE).ask(1, 0), 1);
    }

    // "NONE if there are no LOTS, no ROOMS"
    private static void askOfNone() {
        OtherPanes x = of(TWO);
        x.glimpse(0, 0, true);
        x.glimpse(1, 0, true);
        due("no LOTS: ask(0)", x.ask(0, 0), NONE);
        due("no LOTS: ask(1)", x.ask(1, 0), NONE);
        due("no ROOMS: ask(0)", of("").ask(0, 0), NONE);
        due("no ROOMS: ask(1)", of("").ask(1, 0), NONE);
    }

    // ", or for another what.": ask
    private static void askOfAnotherWhat() {
        OtherPanes x = of(TWO);
        for (int what : new int[] {MIN, -1, 2, 3, MAX}) {
            due("ask(" + what + ", 0)", x.ask(what, 0), NONE);
        }
    }

    // "a BOX 0 .. 2: the day; NONE if there is none such."
    private static void imageOfNoBox() {
        OtherPanes x = of(TWO);
        for (int box : new int[] {MIN, -1, 3, 4, 32, MAX}) {
            Checks.doesNothing("image(" + box + ")", x, y -> y.image(box), NONE);
            Checks.doesNothing("back(" + box + ")", x, y -> y.back(box), NONE);
        }
        for (int box : new int[] {0, 1, 2}) {
            Checks.doesNothing("back(" + box + ") of nothing", x, y -> y.back(box), NONE);
        }
        for (int box = 0; box < 3; box++) {
            due("image(" + box + ")", x.image(box), 0);
            due("back(" + box + ")", x.back(box), 0);
        }
        due("image() is no ACT", x.about(7), 0);
        for (int box : new int[] {MIN, -32, -1, 3, 4, 31, 32, 33, MAX}) {
            Checks.doesNothing("image(" + box + "), all full", x, y -> y.image(box), NONE);
            Checks.doesNothing("back(" + box + "), all full", x, y -> y.back(box), NONE);
        }
    }

    // "are kept in a BOX": the latest
    private static void imageAgain() {
        OtherPanes x = of(TWO);
        x.image(1);
        x.curtain(0);
        for (int i = 0; i < 24; i++) {
            x.hour();
        }
        due("image(1) again", x.image(1), 1);
        x.curtain(0);
        due("back(1)", x.back(1), 1);
        due("the latest", x.room(0, 2), 1);
        due("more than once", x.back(1), 1);
        x.hour();
        due("what is done since does not touch it", x.back(1), 1);
        due("the HOUR", x.about(2), 0);
    }

    // "NONE, doing nothing, if nothing was."
    private static void backOfNothing() {
        OtherPanes x = of(TWO);
        x.hour();
        x.hour();
        x.undo();
        x.image(2);
        Checks.doesNothing("back(0)", x, y -> y.back(0), NONE);
        Checks.doesNothing("back(1)", x, y -> y.back(1), NONE);
        due("still to redo", x.redo(), true);
        due("back(2)", x.back(2), 0);
        Checks.feed(x, TWO);
        x.quarter();
        Checks.doesNothing("BOXES are empty behind quarter()", x, y -> y.back(2), NONE);
        due("of a new one", new OtherPanes().back(0), NONE);
    }

    // "Windows, curtains, what each KNOWS, HOUR, day, SEED"; "All is as it was kept"
    private static void backAsItWasKept() {
        OtherPanes x = of(SIX + "fact k of b at 0;fact l of c at 1;tells a f;draw 5;");
        x.cast();
        x.curtain(3);
        for (int i = 0; i < 25; i++) {
            x.hour();
        }
        x.image(0);
        String kept = scene(x);
        x.cast();
        x.curtain(3);
        x.curtain(0);
        x.swap(0, 5);
        for (int i = 0; i < 30; i++) {
            x.hour();
        }
        x.image(1);
        String other = scene(x);
        due("back(0)", x.back(0), 1);
        Checks.same("back(0)", scene(x), kept);
        due("back(1)", x.back(1), 2);
        Checks.same("back(1)", scene(x), other);
    }

    private static String scene(OtherPanes x) {
        StringBuilder s = new StringBuilder();
        for (int what = 2; what <= 4; what++) {
            s.append(x.about(what)).append(' ');
        }
        for (int room = 0; room < x.about(0); room++) {
            s.append(x.room(room, 0)).append(' ').append(x.room(room, 2)).append(' ').append(x.room(room, 3)).append(' ');
        }
        return s.toString();
    }

    // "(no ACTS are kept then; AIMS stay)"
    private static void backKeepsNoActs() {
        OtherPanes x = of(TWO);
        x.curtain(0);
        x.image(0);
        x.hour();
        x.hour();
        x.undo();
        x.aim(0, 0);
        x.aim(1, 1);
        x.glimpse(0, 1, true);
        x.later(4);
        x.best();
        due("back(0)", x.back(0), 0);
        due("none to undo", x.about(7), 0);
        due("none to redo", x.about(8), 0);
        Checks.answersFalse("undo()", x, y -> y.undo());
        Checks.answersFalse("redo()", x, y -> y.redo());
        due("AIMS", x.about(6), 2);
        due("GLIMPSES", x.about(9), 1);
        due("the TIME", x.about(10), 4);
        due("what lies there", x.about(13), 2);
        due("an ACT then", x.hour(), 0);
        due("it can be undone", x.about(7), 1);
    }

    // "NONE for another what.": about
    private static void aboutOfAnotherWhat() {
        OtherPanes x = of(TWO);
        for (int what : new int[] {MIN, -1, 14, 15, 32, MAX}) {
            due("about(" + what + ")", x.about(what), NONE);
        }
    }

    // "What 0: ROOMS, .. 13: numbers that lie there.": as many as there can be
    private static void aboutWhenFull() {
        StringBuilder s = new StringBuilder(SIX);
        for (int i = 0; i < 10; i++) {
            s.append("fact ").append((char) ('k' + i)).append(" of a at 1;");
        }
        for (char a = 'a'; a <= 'f'; a++) {
            for (char b = 'a'; b <= 'f'; b++) {
                s.append(a == b ? "" : "tells " + a + " " + b + ";");
            }
        }
        s.append("rent 1").append("+1".repeat(29)).append(";draw 999;");
        OtherPanes x = of(s.toString());
        for (int i = 0; i < 47; i++) {
            x.hour();
        }
        for (int i = 0; i < 30; i++) {
            x.glimpse(0, 0, true);
        }
        for (int i = 0; i < 6; i++) {
            x.aim(i, 5 - i);
        }
        for (int i = 0; i < 100; i++) {
            x.later(1000);
        }
        for (int i = 0; i < 80; i++) {
            x.feed(0, 0, 0, 0, 0);
        }
        x.word(0, 1);
        int[] want = {6, 10, 23, 1, 999, 30, 6, 40, 0, 30, 100000, 1600, 30, 6};
        for (int what = 0; what <= 13; what++) {
            due("full: about(" + what + ")", x.about(what), want[what]);
        }
        for (int i = 0; i < 40; i++) {
            x.undo();
        }
        due("all undone: about(7)", x.about(7), 0);
        due("all undone: about(8)", x.about(8), 40);
    }

    // "An object is used for at most 512 calls": the last of them answers as the first does.
    private static void fiveHundredTwelveCalls() {
        OtherPanes x = new OtherPanes();
        for (int i = 0; i < 511; i++) {
            x.hour();
        }
        due("the 512th call: 511 HOURS", x.about(3), 21);
        OtherPanes y = new OtherPanes();
        for (int i = 0; i < 511; i++) {
            y.image(i % 3);
        }
        due("the 512th call", y.back(0), 0);
    }
}
