import java.util.Random;

/** The document's sentences on nights to come, on what one knew, and on chances ('Terms', ==== 2 and ==== 3) that name a boundary. */
public final class EdgesOfNightsTest extends Checks {
    private static final long FACTOR = 6364136223846793005L, STEP = 1442695040888963407L;

    public static void main(String[] args) {
        runSentences(EdgesOfNightsTest.class);
    }

    // ---- ==== 2

    @Sentence("In what follows nothing is changed.")
    static void askingChangesNothing() {
        unchanged("later(1, 20, 1)", Checks::busy, x -> x.later(1, 20, 1), 9);
        unchanged("hummock(1)", Checks::busy, x -> x.hummock(1), 4);
        unchanged("soon(3, 48, 0)", Checks::busy, x -> x.soon(3, 48, 0), 2);
        unchanged("soon(3, 63, 1)", Checks::busy, x -> x.soon(3, 63, 1), NONE);
        unchanged("beneath(0)", Checks::busy, x -> x.beneath(0), 15);
        // A night; tramp 3 walks to 7; a night; it knows e.
        unchanged("judge(4, 137000435)", Checks::busy, x -> x.judge(4, 137000435L), NONE);
        unchanged("judge(2, 301201)", Checks::busy, x -> x.judge(2, 301201L), NONE);
        unchanged("lay(0)", Checks::busy, x -> x.lay(0), 4);
        unchanged("share(0, true)", Checks::busy, x -> x.share(0, true), 2);
        unchanged("rests(0, 3, 0)", Checks::busy, x -> x.rests(0, 3, 0), 4);
        unchanged("cold(3, 0, 5, true)", Checks::busy, x -> x.cold(3, 0, 5, true), 1);
    }

    @Sentence("IN n NIGHTS (0 to 20), nobody walking: what a TRAMP knows (bits); how WHITE it is.")
    static void inNoneToTwentyNights() {
        ChalkTramps x = on("KG2abcdI20I21I90");
        due("in -1 nights", x.later(0, -1, 0), OUTSIDE);
        due("in 0 nights it knows", x.later(0, 0, 0), 0);
        due("in 0 nights it is white", x.later(0, 0, 1), 0);
        due("in 1 night it knows", x.later(0, 1, 0), 1);
        due("in 20 nights it knows", x.later(0, 20, 0), 15);
        due("in 20 nights it is white", x.later(0, 20, 1), 9);
        due("in 20 nights, no kiln", x.later(2, 20, 0), 0);
        due("in 20 nights, no kiln, white", x.later(2, 20, 1), 0);
        due("in 21 nights", x.later(0, 21, 0), OUTSIDE);
        x.night();
        due("in 0 nights it knows what it knows", x.later(1, 0, 0), 3);
        due("in 0 nights it is as white as it is", x.later(1, 0, 1), 1);
    }

    @Sentence("HUMMOCK of a TRAMP: in how many NIGHTS (0 to 20), nobody walking, it is one first; NONE.")
    static void inHowManyNightsAHummock() {
        ChalkTramps x = on("KG2aI20I22I23I30");
        due("plain", x.hummock(0), 9);
        due("chalky", x.hummock(1), 5);
        due("teller", x.hummock(2), 9);
        due("no kiln: never", x.hummock(3), NONE);
        nights(x, 4);
        due("chalky, white by 8", x.hummock(1), 1);
        nights(x, 1);
        due("it is one", x.hummock(1), 0);
        nights(x, 20);
        due("it is one still", x.hummock(1), 0);
        due("the plain one, too", x.hummock(0), 0);
        due("never still", x.hummock(3), NONE);
    }

    @Sentence("SOON for a TRAMP and some LAYERS (bits): the fewest NIGHTS (0 to 4)")
    static void soonInNoneToFourNights() {
        ChalkTramps x = on("KG9abcI00I90");
        due("no layers: no night", x.soon(0, 0, 0), 0);
        due("three nights", x.soon(0, 1, 0), 3);
        due("four nights", x.soon(0, 3, 0), 4);
        due("five nights are too many", x.soon(0, 7, 0), NONE);
        due("one night", x.soon(1, 1, 0), 1);
        due("three at one kiln", x.soon(1, 7, 0), 3);
        due("four at one kiln", on("KG9abcdI90").soon(0, 15, 0), 4);
        due("five layers by a plain one", on("KG9abcdG8eI90").soon(0, 31, 0), NONE);
        due("six layers by a chalky one", on("KG9abcdG8efI92").soon(0, 63, 0), 2);
        due("what is nowhere", x.soon(0, 32, 0), NONE);
        x.night();
        due("what it knows: no night", x.soon(1, 1, 0), 0);
        // The quick one takes f and c at 6, and b and d at 0, by then at a speed of 2: behind some 120 other camps of three nights.
        ChalkTramps many = on("KG3eG5ebG6fcaeG0ecbdI23I11I43I31");
        many.night();
        due("four nights among many ways", many.soon(3, 40, 0), 4);
        due("four nights among many ways, where to", many.soon(3, 40, 1), 6310);
        due("some of it: the fewest", x.soon(1, 3, 0), 1);
    }

    @Sentence("in each of which it goes to a PLACE first (by WALKED, if it may; its own: it stays)")
    static void soonByWalksThatItMay() {
        due("just in reach", on("KG5aI20").soon(0, 1, 1), 5);
        due("out of reach by one", on("KG6aI20").soon(0, 1, 0), 2);
        due("its own: it stays", on("KG2abI20").soon(0, 3, 1), 22);
        ChalkTramps walked = on("KG5aG3bI20");
        walked.walk(0, 3);
        due("it has walked: it stays a night", walked.soon(0, 1, 1), 35);
        ChalkTramps slow = on("KG2aG4bG5cI20");
        nights(slow, 3);
        due("white by 3: two far", slow.soon(0, 2, 1), 4);
        due("white by 3: not three far", slow.soon(0, 4, 0), 2);
        nights(slow, 5);
        due("white by 8: one far, then 4 in the next", slow.soon(0, 2, 1), 34);
        due("white by 8: it must not lie up on the way", slow.soon(0, 6, 0), NONE);
        nights(slow, 1);
        due("a hummock goes nowhere", slow.soon(0, 2, 0), NONE);
        due("a hummock knows what it knows", slow.soon(0, 1, 0), 0);
    }

    @Sentence("others staying where they are, behind which it knows all of these: how many; where to (a figure each, the PLACE; of like ones the least; 0: none); NONE.")
    static void soonWhereTo() {
        due("no nights: 0", on("KG2aI20").soon(0, 0, 1), 0);
        due("place 0: one night", on("KG0aI20").soon(0, 1, 0), 1);
        due("place 0: figure 0", on("KG0aI20").soon(0, 1, 1), 0);
        due("0 ahead of 2", on("KG0aG2bI20").soon(0, 3, 1), 2);
        due("four nights at 0", on("KG0abcdI00").soon(0, 15, 1), 0);
        due("four nights at 9", on("KG9abcdI90").soon(0, 15, 1), 9999);
        due("3, 6, 9, 9", on("KG9abI00").soon(0, 3, 1), 3699);
        due("of like ones the least", on("KG2aG4aI30").soon(0, 1, 1), 2);
        due("of like ones the least in front", on("KG2aG4bI30").soon(0, 3, 1), 24);
        due("of like ones the least on the way", on("KG9aI50").soon(0, 1, 1), 69);
        due("NONE", on("KG9aI00").soon(0, 2, 1), NONE);
        ChalkTramps x = on("KG2abcdI22I53I33");
        due("a teller hears one who stays where it is", x.soon(1, 15, 1), 2);
        due("another who could come does not", on("KG2aI52I33").soon(1, 1, 0), 1);
        due("all of these, not some", on("KG2abI20").soon(0, 3, 0), 2);
        ChalkTramps twice = on("KG0efbaI62");
        due("a and e: by 3 to 0", twice.soon(0, 17, 1), 30);
        due("asked behind another question: b, e and f", twice.soon(0, 50, 1), 30);
        due("once more: a and e", twice.soon(0, 17, 1), 30);
    }

    @Sentence("BENEATH: orders of LAYERS that are in any KILN")
    static void ordersOfLayersThatAreInAnyKiln() {
        due("one layer", on("KG0f").beneath(0), 1);
        due("one layer, the first", on("KG0f").beneath(1), 6);
        due("one layer in four kilns", on("KG0fG1fG2fG3f").beneath(0), 1);
        due("six layers, most orders: 720 by 2 and 2", on("KG0abG1cdG2eG3f").beneath(0), 180);
        due("six layers, the first", on("KG0baG1dcG2fG3e").beneath(1), 214356);
        due("tramps do not matter", on("KG0fI00I11").beneath(0), 1);
    }

    @Sentence("by which LAYERS of each KILN come one behind the other as they do there (others between them): how many (no LAYERS: 1)")
    static void ordersThatFitAllKilns() {
        due("no layers", on("KI20").beneath(0), 1);
        due("a new object", new ChalkTramps().beneath(0), 1);
        due("others between them", on("KG0afG1b").beneath(0), 3);
        due("others between them, in another kiln", on("KG0afG1abf").beneath(0), 1);
        due("two kilns that gainsay each other", on("KG0abG1ba").beneath(0), 0);
        due("three kilns that do so together", on("KG0abG1bcG2ca").beneath(0), 0);
        due("far apart", on("KG0abcdG1da").beneath(0), 0);
        due("four of four", on("KG0abcdG1abcdG2abcdG3abcd").beneath(0), 1);
        ChalkTramps anew = on("KG0af");
        due("a above f", anew.beneath(1), 16);
        text(anew, "KG0fa");
        anew.hill();
        due("a hill made anew: f above a", anew.beneath(1), 61);
        text(anew, "KG0af");
        anew.hill();
        due("and once more: a above f", anew.beneath(1), 16);
    }

    @Sentence("the first (figures 1 to 6, the first one topmost; the least; no LAYERS: 0); NONE.")
    static void theFirstOrder() {
        due("no layers: 0", on("KI20").beneath(1), 0);
        due("a new object: 0", new ChalkTramps().beneath(1), 0);
        due("the least of all six", on("KG0abcG1def").beneath(1), 123456);
        due("the greatest of all six", on("KG0fedcG1cba").beneath(1), 654321);
        due("the least", on("KG0faG1bG2ca").beneath(1), 2361);
        due("the first one topmost", on("KG0fa").beneath(1), 61);
        due("NONE", on("KG0abG1ba").beneath(1), NONE);
    }

    @Sentence("JUDGED: n doings (1 to 4), told as three figures each")
    static void judgedOneToFourDoings() {
        ChalkTramps x = on("KG2abcdI20");
        due("no doings", x.judge(0, 0), OUTSIDE);
        for (int n = 1; n <= 4; n++) due(n + " nights", x.judge(n, 0), NONE);
        due("five doings", x.judge(5, 0), OUTSIDE);
        due("one: knows a", x.judge(1, 401), 0);
        due("two: a night, knows a", x.judge(2, 401), NONE);
        due("four: three nights, knows c", x.judge(4, 403), NONE);
        due("four: three nights, knows d", x.judge(4, 404), 3);
    }

    @Sentence("(0, 0, 0: A NIGHT; 1, a TRAMP, a PLACE: WALKED; 2, two TRAMPS: TOLD; 3, 0, a TRAMP: WASHED;")
    static void doingsThatCanNotBe() {
        ChalkTramps x = on("KG2abcdI22I20I93");
        due("0, 0, 0", x.judge(1, 0), NONE);
        due("0, 0, 1", x.judge(1, 1), 0);
        due("0, 1, 0", x.judge(1, 10), 0);
        due("walked as far as it may", x.judge(1, 105), NONE);
        due("walked too far", x.judge(1, 106), 0);
        due("walked to where it is", x.judge(1, 102), 0);
        due("walked to 0", x.judge(1, 100), NONE);
        due("walked from 9 to 0", x.judge(1, 120), 0);
        due("walked, the first tramp that is not there", x.judge(1, 132), 0);
        due("walked twice", x.judge(2, 105104), 1);
        due("walked, a night, walked", x.judge(3, 105000104), NONE);
        due("told", x.judge(1, 201), NONE);
        due("told, the last tramp by the first", x.judge(1, 202), 0);
        due("told, both are one", x.judge(1, 200), 0);
        due("told by the first that is not there", x.judge(1, 230), 0);
        due("told to the first that is not there", x.judge(1, 203), 0);
        due("washed", x.judge(1, 300), NONE);
        due("washed, the last", x.judge(1, 302), NONE);
        due("washed, the first that is not there", x.judge(1, 303), 0);
        due("3, 1, 0", x.judge(1, 310), 0);
        due("6, 0, 0", x.judge(1, 600), 0);
        due("9, 9, 9", x.judge(1, 999), 0);
        nights(x, 4);
        due("white by 8: washed", x.judge(1, 300), NONE);
        due("white by 8: walked", x.judge(1, 103), NONE);
        due("white by 8: told", x.judge(1, 210), NONE);
        due("a night more: not washed", x.judge(2, 300), 1);
        due("a night more: not walked", x.judge(2, 103), 1);
        due("a night more: not told", x.judge(2, 210), 1);
        due("a night more: it tells", x.judge(2, 201), NONE);
    }

    @Sentence("4, a TRAMP, a figure 1 to 6: it knows that LAYER; 5, a TRAMP, v: it is WHITE by v or more)")
    static void tellingsThatAreNotSo() {
        ChalkTramps x = on("KG2abcdG3efI22I32I20");
        due("knows a ahead of the night", x.judge(1, 401), 0);
        x.night();
        due("figure 0", x.judge(1, 400), 0);
        due("figure 1", x.judge(1, 401), NONE);
        due("figure 4", x.judge(1, 404), NONE);
        due("figure 5", x.judge(1, 405), 0);
        due("figure 5 of the other one", x.judge(1, 415), NONE);
        due("figure 6", x.judge(1, 416), NONE);
        due("figure 7", x.judge(1, 417), 0);
        due("figure 9", x.judge(1, 419), 0);
        due("knows, the first that is not there", x.judge(1, 431), 0);
        due("white by 0 or more", x.judge(1, 500), NONE);
        due("white by 2 or more", x.judge(1, 502), NONE);
        due("white by 3 or more", x.judge(1, 503), 0);
        due("white, the first that is not there", x.judge(1, 530), 0);
        nights(x, 3);
        due("white by 8: by 9 or more", x.judge(1, 509), 0);
        due("a night more: by 9 or more", x.judge(2, 509), NONE);
    }

    @Sentence("the place of the first that can not be (or is not so); NONE: none.")
    static void thePlaceOfTheFirst() {
        ChalkTramps x = on("KG2abcdI20");
        due("the first", x.judge(4, 401000000000L), 0);
        due("the second", x.judge(4, 402000000L), 1);
        due("the third", x.judge(4, 403000L), 2);
        due("the last", x.judge(4, 404L), 3);
        due("of several the first", x.judge(4, 402402402L), 1);
        due("none", x.judge(4, 403L), NONE);
    }

    // ---- ==== 3

    @Sentence("KNEW: that an unknown TRAMP, PLAIN or QUICK, that lay so many NIGHTS (0 to 3) at one KILN of THE HILL, and knew nothing ahead")
    static void layNoneToThreeNights() {
        ChalkTramps none = on("KG0a");
        none.knew(1, 0);
        due("no night: plain, quick", none.lay(0), 2);
        due("no night, the first", none.lay(1), 0);
        ChalkTramps three = on("KG0abcd");
        three.knew(3, 1);
        three.knew(4, 0);
        due("a, b, c: plain, three nights", three.lay(0), 1);
        due("a, b, c, the first", three.lay(1), 3);
        ChalkTramps four = on("KG0abcd");
        four.knew(4, 1);
        due("all four: quick, two nights and three; no plain one in four", four.lay(0), 2);
        due("all four, the first", four.lay(1), 102);
        ChalkTramps two = on("KG0abcd");
        two.knew(1, 0);
        two.knew(4, 0);
        due("all that it did not know counts: no night", two.lay(0), 2);
        ChalkTramps one = on("KG0abG1cd");
        one.knew(1, 1);
        one.knew(3, 1);
        due("at one kiln, not at two", one.lay(0), 0);
        ChalkTramps last = on("KG0aG1bG2cG3fdeb");
        last.knew(2, 1);
        last.knew(6, 1);
        due("the last kind at the last kiln", last.lay(1), 132);
        due("two nights and three", last.lay(0), 2);
        ChalkTramps tramps = on("KG0abI02");
        tramps.night();
        tramps.knew(2, 0);
        due("no tramp of the hill: what they know does not matter", tramps.lay(0), 3);
    }

    @Sentence("knew a LAYER (1), or did not (0): 6 such at most, none at first.")
    static void sixKnewAtMost() {
        ChalkTramps x = on("KG0abcd");
        due("none at first", x.count(9), 0);
        due("none at first: all fit", x.lay(0), 8);
        for (int i = 1; i <= 6; i++) due("the " + i + ".", x.knew(1, 1), i);
        due("the seventh", x.knew(2, 1), FULL);
        due("six", x.count(9), 6);
        due("the seventh does not count: plain 1, 2, 3, quick 1, 2, 3", x.lay(0), 6);
        x.unknew();
        due("there is room again", x.knew(1, 1), 1);
        due("knew it and did not", x.knew(1, 0), 2);
        due("never", x.lay(0), 0);
    }

    @Sentence("LAY: KINDS (0, 1), KILNS, NIGHTS by which all that it KNEW is so: how many (8 for each KILN)")
    static void eightForEachKiln() {
        String hill = "K";
        for (int kilns = 0; kilns <= 4; kilns++) {
            due(kilns + " kilns", on(hill).lay(0), 8 * kilns);
            hill += "G" + kilns + "abcd";
        }
        due("a new object", new ChalkTramps().lay(0), 0);
        ChalkTramps x = on("KG0aG1b");
        x.knew(6, 0);
        due("all is so still", x.lay(0), 16);
        x.knew(5, 1);
        due("nothing is so", x.lay(0), 0);
    }

    @Sentence("the first (100 times KIND, 10 times KILN, and NIGHTS); NONE.")
    static void theFirstThatLay() {
        due("no kilns: NONE", on("KI20").lay(1), NONE);
        due("a new object: NONE", new ChalkTramps().lay(1), NONE);
        due("nothing KNEW: 0", on("KG0a").lay(1), 0);
        ChalkTramps x = on("KG0aG1bG2cG3defa");
        x.knew(4, 1);
        due("plain, the last kiln, one night", x.lay(1), 31);
        x.knew(6, 1);
        due("plain, the last kiln, three nights", x.lay(1), 33);
        x.knew(1, 1);
        due("quick, the last kiln, two nights", x.lay(1), 132);
        x.knew(2, 1);
        due("NONE", x.lay(1), NONE);
    }

    @Sentence("SHARE of a TRAMP: if TRAMPS come one by one, in each order as likely")
    static void sharesOfOneToFour() {
        ChalkTramps one = on("KG0abcdI02");
        due("nothing known, above", one.share(0, true), 0);
        due("nothing known, below", one.share(0, false), 1);
        one.night();
        due("alone: all, above", one.share(0, true), 4);
        due("alone: all, below", one.share(0, false), 1);
        ChalkTramps four = on("KG0aI02I02I02I02");
        four.night();
        for (int tramp = 0; tramp < 4; tramp++) {
            due("one by four, above", four.share(tramp, true), 1);
            due("one by four, below", four.share(tramp, false), 4);
        }
        four.wash(3);
        due("one by three, below", four.share(0, false), 3);
        due("who knows nothing, above", four.share(3, true), 0);
        due("who knows nothing, below", four.share(3, false), 1);
        ChalkTramps six = on("KG0abcdG1efI02I12I90I91");
        six.night();
        six.walk(1, 0);
        six.tell(0, 1);
        due("two alone and half of four, above", six.share(1, true), 4);
        due("two alone and half of four, below", six.share(1, false), 1);
        due("half of four, above", six.share(0, true), 2);
    }

    @Sentence("RESTS of two TRAMPS: each goes to the KILN of a number 0 to 3 (by WALKED, if it may and there is such a one; else it stays)")
    static void numbersOfKilnsThatAreNotThere() {
        due("no kilns: each number is as good", on("KI20I30").rests(0, 1, 0), 16);
        due("kilns out of reach: each number is as good", on("KG9aG8bI20I30").rests(0, 1, 0), 16);
        due("the last number alone", on("KG2aG3bG4cG5abcdI32I42").rests(0, 1, 0), 1);
        due("the last number alone, the first", on("KG2aG3bG4cG5abcdI32I42").rests(0, 1, 1), 33);
        // Number 0 is the one place with something to know, 4 - 3 for two; by 1 to 3, which are no kilns, each stays and has 0.
        due("one kiln: 0 alone", on("KG5abI22I82").rests(0, 1, 0), 1);
        due("one kiln, the first", on("KG5abI22I82").rests(0, 1, 1), 0);
        due("one kiln, in the other's reach alone: all of the one's numbers", on("KG5abI12I82").rests(0, 1, 0), 4);
        ChalkTramps walked = on("KG5abcdI42I90");
        walked.walk(0, 3);
        due("one that has walked stays: all its numbers are alike", walked.rests(0, 1, 0), 16);
    }

    @Sentence("each has 2 for each LAYER that it knows then, and 3 less, if the other one is at its PLACE")
    static void threeLessBesideTheOther() {
        // Together each has 2 - 3, apart one has 2 and the other 0: one of them goes.
        due("one layer: 0 is for one of them", on("KG5aI42I62").rests(0, 1, 0), 6);
        due("one layer, the first", on("KG5aI42I62").rests(0, 1, 1), 1);
        // Together each has 4 - 3 and more than 0: both go.
        due("two layers: 0 is for both", on("KG5abI42I62").rests(0, 1, 0), 1);
        due("two layers, the first", on("KG5abI42I62").rests(0, 1, 1), 0);
        due("no layers, at one place, below 0: all alike", on("KI50I50").rests(0, 1, 0), 16);
    }

    @Sentence("pairs of numbers in which neither has more by another one alone: how many; the first (10 times the one and the other); NONE.")
    static void pairsAtRest() {
        due("all pairs", on("KI20I30").rests(0, 1, 0), 16);
        due("all pairs, the first", on("KI20I30").rests(0, 1, 1), 0);
        // The teller has more beside the quick one, who knows three layers, and the quick one has more away from it.
        ChalkTramps x = on("KG4bG2dfcI33I21");
        due("ahead of two nights there are some", x.rests(0, 1, 0) > 0);
        nights(x, 2);
        due("no pair", x.rests(0, 1, 0), 0);
        due("no pair, the first", x.rests(0, 1, 1), NONE);
        due("no pair, turned round", x.rests(1, 0, 1), NONE);
        // Kiln 0 is in the one's reach alone, kiln 1 in the other's.
        ChalkTramps y = on("KG0aG9bI20I70");
        due("the one 0, the other 1", y.rests(0, 1, 1), 1);
        due("turned round", y.rests(1, 0, 1), 10);
        due("one pair", y.rests(0, 1, 0), 1);
    }

    @Sentence("COLD: each KILN is COLD by x tenths (0 to 10), by itself (as if it was not there in this NIGHT)")
    static void coldByNoneToTenTenths() {
        ChalkTramps x = on("KG2abG5cI21I50I91");
        due("x = -1", x.cold(0, 1, -1, true), OUTSIDE);
        due("x = 0: sure, above", x.cold(0, 2, 0, true), 1);
        due("x = 0: sure, below", x.cold(0, 2, 0, false), 1);
        due("x = 1, above", x.cold(0, 2, 1, true), 9);
        due("x = 1, below", x.cold(0, 2, 1, false), 10);
        due("x = 9, above", x.cold(0, 2, 9, true), 1);
        due("x = 9, below", x.cold(0, 2, 9, false), 10);
        due("x = 10: never, above", x.cold(0, 2, 10, true), 0);
        due("x = 10: never, below", x.cold(0, 2, 10, false), 1);
        due("x = 11", x.cold(0, 1, 11, true), OUTSIDE);
        due("by itself: its own kiln alone matters", x.cold(1, 1, 3, true), 7);
        due("no kiln at its place", x.cold(2, 1, 0, true), 0);
        due("no kilns at all", on("KI20").cold(0, 0, 10, false), 1);
        // Warm, the teller is white by 9 and hears nothing; as if the kiln was not there, it hears.
        ChalkTramps y = on("KG2aG5bI23I50");
        y.night();
        y.walk(1, 4);
        nights(y, 7);
        y.walk(1, 2);
        due("a teller that stays no hummock where it is cold, above", y.cold(0, 2, 4, true), 2);
        due("a teller that stays no hummock where it is cold, below", y.cold(0, 2, 4, false), 5);
    }

    @Sentence("that a TRAMP knows m (0 to 6) LAYERS or more behind A NIGHT: a FRACTION.")
    static void coldForNoneToSixLayers() {
        ChalkTramps x = on("KG2abcdG3efI22I32");
        due("m = -1", x.cold(0, -1, 5, true), OUTSIDE);
        due("m = 0: sure, above", x.cold(0, 0, 10, true), 1);
        due("m = 0: sure, below", x.cold(0, 0, 10, false), 1);
        due("m = 4", x.cold(0, 4, 5, false), 2);
        due("m = 5: never", x.cold(0, 5, 5, true), 0);
        x.night();
        due("m = 4: known already", x.cold(0, 4, 10, true), 1);
        x.walk(0, 3);
        due("m = 6, above", x.cold(0, 6, 3, true), 7);
        due("m = 6, below", x.cold(0, 6, 3, false), 10);
        due("m = 7", x.cold(0, 7, 5, true), OUTSIDE);
        x.tell(1, 0);
        due("m = 6: known already", x.cold(0, 6, 10, true), 1);
    }

    /** A seed by which the years draw just these numbers (0 to 63), one behind the other. */
    private static long seedFor(int... drawn) {
        long inverse = 1L;
        for (int i = 0; i < 6; i++) inverse *= 2 - FACTOR * inverse;
        Random random = new Random(1);
        for (int turn = 0; turn < 1000000; turn++) {
            long first = random.nextLong() & ~(63L << 33) | (long) drawn[0] << 33;
            if (draws(first, drawn)) return (first - STEP) * inverse;
        }
        throw new IllegalStateException("no seed");
    }

    private static boolean draws(long first, int... drawn) {
        long x = first;
        for (int one : drawn) {
            if ((x >>> 33) % 64 != one) return false;
            x = x * FACTOR + STEP;
        }
        return true;
    }

    private static int years(ChalkTramps x, int... drawn) {
        x.seed(seedFor(drawn));
        return x.years(drawn.length);
    }

    @Sentence("YEARS by THE SEED: m times (1 to 30) x (THE SEED, a long; 0 at first) becomes x times 6364136223846793005 and 1442695040888963407 (64 bits, wrapping)")
    static void oneToThirtyYears() {
        ChalkTramps x = on("KG2abcdI22");
        due("0 years", x.years(0), OUTSIDE);
        due("31 years", x.years(31), OUTSIDE);
        due("0 at first", x.seed(0), 0);
        x.years(1);
        due("0 becomes", x.seed(Long.MAX_VALUE), STEP);
        x.years(1);
        due("the most wraps", x.seed(Long.MIN_VALUE), Long.MAX_VALUE * FACTOR + STEP);
        x.years(1);
        due("the least wraps", x.seed(-1), Long.MIN_VALUE * FACTOR + STEP);
        x.years(1);
        due("-1 wraps", x.seed(5), STEP - FACTOR);
        x.years(30);
        long by = 5;
        for (int i = 0; i < 30; i++) by = by * FACTOR + STEP;
        due("thirty times", x.seed(0), by);
        // A hummock stays and knows what it knows, whatever is drawn: four layers in each year.
        nights(x, 5);
        due("one year", x.years(1), 4);
        due("thirty years", x.years(30), 120);
        due("no tramps", new ChalkTramps().years(30), 0);
    }

    @Sentence("its upper 31 bits by 64, what is left")
    static void theUpper31Bits() {
        long inverse = 1L;
        for (int i = 0; i < 6; i++) inverse *= 2 - FACTOR * inverse;
        // 48 draws a night, by which the chalky one knows four; 0 to 47 can not be, or change nothing that it knows.
        long[] upper = {47, 48, 63, 64, 64 + 47, 64 + 48, (1L << 30) + 47, (1L << 30) + 48, (1L << 31) - 17, (1L << 31) - 16, (1L << 31) - 1};
        int[] known = {0, 4, 4, 0, 0, 4, 0, 4, 0, 4, 4};
        ChalkTramps x = on("KG2abcdI22");
        for (int i = 0; i < upper.length; i++) {
            for (long lower : new long[] {0L, (1L << 33) - 1}) {
                x.seed(((upper[i] << 33 | lower) - STEP) * inverse);
                due("upper bits " + upper[i] + ", lower " + lower, x.years(1), known[i]);
            }
        }
    }

    @Sentence("0 to 39 that by 10 (cut) is a TRAMP that WALKED to the PLACE that is left by 10")
    static void yearsOfWalks() {
        due("0: tramp 0 to 0, then a night", years(on("KG0abcdI32"), 0, 48), 4);
        due("9: tramp 0 to 9, then a night", years(on("KG9abcdI62"), 9, 48), 4);
        due("10: tramp 1 to 0", years(on("KG0abcdI60I32"), 10, 48), 4);
        due("19: tramp 1 to 9", years(on("KG9abcdI30I62"), 19, 48), 4);
        due("20: tramp 2 to 0", years(on("KG0abcdI60I60I32"), 20, 48), 4);
        due("29: tramp 2 to 9", years(on("KG9abcdI30I30I62"), 29, 48), 4);
        due("30: tramp 3 to 0", years(on("KG0abcdI60I60I60I32"), 30, 48), 4);
        due("39: tramp 3 to 9", years(on("KG9abcdI30I30I30I62"), 39, 48), 4);
    }

    @Sentence("40 to 43 that less 40 TRAMP is WASHED")
    static void yearsOfBaths() {
        for (int tramp = 0; tramp < 4; tramp++) {
            ChalkTramps x = on("KG2aG3abG4abcG5abcdI22I32I42I52");
            x.night();
            due(40 + tramp + ": tramp " + tramp, years(x, 40 + tramp), 10 - (tramp + 1));
        }
    }

    @Sentence("44 to 47 that less 44 TRAMP TOLD the one of 1 more (3: TRAMP 0)")
    static void yearsOfTellings() {
        for (int tramp = 0; tramp < 4; tramp++) {
            ChalkTramps x = on("KG2abcdI22I22I22I22");
            x.night();
            for (int other = 0; other < 4; other++) {
                if (other != tramp) x.wash(other);
            }
            due(44 + tramp + ": tramp " + tramp + " told the next", years(x, 44 + tramp), 8);
            int next = tramp == 3 ? 0 : tramp + 1;
            x.wash(tramp);
            due(44 + tramp + ": it knows nothing to tell", years(x, 44 + tramp), 0);
            due(44 + tramp + ", then the next one is washed", toldAndWashed(tramp, next), 12);
        }
    }

    /** One who knows four tells the next one (8), who is washed (4): just that one was told. */
    private static int toldAndWashed(int tramp, int next) {
        ChalkTramps x = on("KG2abcdI22I22I22I22");
        x.night();
        for (int other = 0; other < 4; other++) {
            if (other != tramp) x.wash(other);
        }
        return years(x, 44 + tramp, 40 + next);
    }

    @Sentence("each if it can be; 48 and more A NIGHT: how many LAYERS all TRAMPS know (each for itself), each time, together.")
    static void yearsThatCanNotBe() {
        due("48: a night", years(on("KG2abI20"), 48), 1);
        due("63: a night", years(on("KG2abI20"), 63), 1);
        due("each time, together: 1, 2, 2", years(on("KG2abI20"), 48, 63, 50), 5);
        due("each for itself", years(on("KG2abI22I22I22I22"), 48), 8);
        due("walked too far can not be", years(on("KG0abI40"), 0, 48), 0);
        due("walked to its own place can not be", years(on("KG2abI20"), 2, 48), 1);
        due("walked twice can not be", years(on("KG0abG2cdI42"), 2, 0, 48), 2);
        due("walked, a night, walked can", years(on("KG0abG2cdI42"), 2, 48, 0, 48), 0 + 2 + 2 + 4);
        ChalkTramps walked = on("KG0abI32");
        walked.walk(0, 1);
        due("one that has walked already can not", years(walked, 0, 48), 0);
        due("behind a night it can", years(walked, 48, 0, 48), 2);
        due("a tramp that is not there: walked", years(on("KG2abI20"), 32, 48), 1);
        ChalkTramps x = on("KG2abI22I20I32");
        nights(x, 5);
        due("what they know", years(x, 43), 4);
        due("a hummock is not washed", years(x, 40), 4);
        due("one that is not there is not washed", years(x, 43), 4);
        due("one that is washed", years(x, 41), 2);
        due("not at one place: not told", years(x, 45), 4);
        due("one that is not there tells nothing", years(x, 47), 4);
        due("to one that is not there nothing is told", years(x, 46), 4);
    }

    @Sentence("(Nothing changes but THE SEED.)")
    static void yearsChangeNothingButTheSeed() {
        ChalkTramps asked = busy();
        due("thirty years know something", asked.years(30) > 0);
        due("the seed is another one", asked.seed(12345) != 12345);
        due("nothing else", whole(asked).equals(whole(busy())));
    }

    @Sentence("SLOTS 0 to 1 keep where TRAMPS are, what they know, how WHITE, who has WALKED, THE NIGHT (THE ROW of ACTS is empty when one goes on).")
    static void slotsNoneAndOne() {
        for (int slot = 0; slot <= 1; slot++) {
            ChalkTramps x = on("KG2abcdI22I50");
            nights(x, 2);
            x.walk(1, 4);
            due("kept in " + slot, x.keep(slot), 2);
            due("the row is not empty when it is kept", x.count(8), 3);
            due("the other slot is empty", x.again(1 - slot), STATE);
            nights(x, 2);
            x.wash(0);
            x.walk(1, 5);
            due("gone on from " + slot, x.again(slot), 2);
            due("where", x.tramp(1, 0), 4);
            due("what it knows", x.tramp(0, 2), 15);
            due("how white", x.tramp(0, 3), 4);
            due("who has walked", x.count(5), 2);
            due("the night", x.count(3), 2);
            due("the row is empty", x.count(8), 0);
            due("nothing to undo", x.undo(), STATE);
        }
        ChalkTramps all = on("KI20I30I40I00");
        for (int tramp = 0; tramp < 4; tramp++) all.walk(tramp, 1);
        all.keep(0);
        all.night();
        all.again(0);
        due("all that have walked", all.count(5), 15);
        due("slot -1", on("KI20").keep(-1), UNKNOWN);
        due("slot 2", on("KI20").keep(2), UNKNOWN);
        due("again -1", on("KI20").again(-1), UNKNOWN);
        due("again 2", on("KI20").again(2), UNKNOWN);
    }
}
