/** The document's sentences on refusals, the hill and the acts ('Terms', up to ==== 1) that name a boundary: a test for each. */
public final class EdgesOfHillTest extends Checks {
    public static void main(String[] args) {
        runSentences(EdgesOfHillTest.class);
    }

    private static void fault(String text, int want) {
        ChalkTramps x = written(text);
        due("fault() of '" + text + "'", x.fault(), want);
        due("'" + text + "' is a hill", x.hill() >= 0 == (want == NONE));
    }

    // ---- calls and refusals

    @Sentence("An object is used for at most 512 calls after it has been made; what later calls answer is free.")
    static void the512thCallIsAnswered() {
        ChalkTramps x = new ChalkTramps();
        nights(x, 511);
        due("count(3), the 512th call", x.count(3), 511);
        ChalkTramps y = on(LARGEST);
        nights(y, 511 - 39);
        due("count(3), the 512th call", y.count(3), 472);
        // Their answers are free, but by LANGUAGE.md, 7, no call may throw.
        for (int call = 0; call < 200; call++) {
            y.night();
            y.undo();
            y.walk(call % 4, call % 10);
            y.soon(call % 4, 63, 1);
            y.years(30);
            y.write(75);
            y.fault();
            y.knew(1, 1);
            y.keep(1);
            y.again(1);
        }
    }

    @Sentence("REFUSALS, of several the first that a call names")
    static void ofSeveralRefusalsTheFirst() {
        ChalkTramps x = busy();
        due("kiln: UNKNOWN ahead of OUTSIDE", x.kiln(2, 5), UNKNOWN);
        due("tramp: UNKNOWN ahead of OUTSIDE", x.tramp(4, 7), UNKNOWN);
        due("walk: UNKNOWN ahead of STATE (a hummock, no place)", x.walk(0, 10), UNKNOWN);
        due("walk: UNKNOWN ahead of STATE (has walked, no place)", x.walk(2, -1), UNKNOWN);
        due("tell: UNKNOWN ahead of OUTSIDE", x.tell(4, 4), UNKNOWN);
        due("tell: UNKNOWN ahead of STATE", x.tell(4, 0), UNKNOWN);
        due("tell: OUTSIDE ahead of STATE (a hummock, both are one)", x.tell(0, 0), OUTSIDE);
        due("later: UNKNOWN ahead of OUTSIDE", x.later(4, 21, 2), UNKNOWN);
        due("soon: UNKNOWN ahead of OUTSIDE", x.soon(4, 64, 2), UNKNOWN);
        due("rests: UNKNOWN ahead of OUTSIDE (both are one)", x.rests(4, 4, 0), UNKNOWN);
        due("rests: UNKNOWN ahead of OUTSIDE (what)", x.rests(0, 4, 2), UNKNOWN);
        due("cold: UNKNOWN ahead of OUTSIDE", x.cold(4, 7, 11, true), UNKNOWN);
        due("again: UNKNOWN ahead of STATE", new ChalkTramps().again(2), UNKNOWN);
        for (int i = 0; i < 48; i++) x.write('K');
        due("write: OUTSIDE ahead of FULL", x.write(256), OUTSIDE);
        for (int i = 0; i < 6; i++) x.knew(1, 1);
        due("knew: OUTSIDE ahead of FULL (layer)", x.knew(7, 1), OUTSIDE);
        due("knew: OUTSIDE ahead of FULL (knew)", x.knew(1, 2), OUTSIDE);
    }

    @Sentence("UNKNOWN (there is no such KILN, TRAMP, PLACE (0 to 9), SLOT)")
    static void whatIsNotThereIsUnknown() {
        for (int no : new int[] {LEAST, -1, 3, 4, MOST}) {
            // Two kilns and three tramps: 3 is below the most of them, and still not there.
            ChalkTramps x = on("KG2abG7cI20I21I23");
            due("kiln " + no, x.kiln(no, 0), UNKNOWN);
            due("tramp " + no, x.tramp(no, 0), UNKNOWN);
            due("walk of " + no, x.walk(no, 3), UNKNOWN);
            due("tell by " + no, x.tell(no, 0), UNKNOWN);
            due("tell to " + no, x.tell(0, no), UNKNOWN);
            due("wash of " + no, x.wash(no), UNKNOWN);
            due("later of " + no, x.later(no, 0, 0), UNKNOWN);
            due("hummock of " + no, x.hummock(no), UNKNOWN);
            due("soon of " + no, x.soon(no, 0, 0), UNKNOWN);
            due("share of " + no, x.share(no, true), UNKNOWN);
            due("rests of " + no + " and another", x.rests(no, 0, 0), UNKNOWN);
            due("rests of another and " + no, x.rests(0, no, 0), UNKNOWN);
            due("cold of " + no, x.cold(no, 0, 0, true), UNKNOWN);
        }
        for (int no : new int[] {LEAST, -1, 10, MOST}) {
            due("at " + no, on("KG2abI20").at(no), UNKNOWN);
            due("walk to " + no, on("KG2abI20").walk(0, no), UNKNOWN);
        }
        for (int no : new int[] {LEAST, -1, 2, MOST}) {
            due("keep " + no, new ChalkTramps().keep(no), UNKNOWN);
            due("again " + no, new ChalkTramps().again(no), UNKNOWN);
        }
        due("kiln 2 of two", on("KG2abG7c").kiln(2, 0), UNKNOWN);
        due("kiln 1 of two is there", on("KG2abG7c").kiln(1, 0), 7);
        due("tramp 2 of three is there", on("KI20I21I23").tramp(2, 1), 3);
        ChalkTramps fewer = on(LARGEST);
        text(fewer, "KG5aI50");
        fewer.hill();
        due("a kiln of the hill ahead of this one", fewer.kiln(1, 0), UNKNOWN);
        due("a tramp of the hill ahead of this one", fewer.tramp(1, 0), UNKNOWN);
    }

    @Sentence("OUTSIDE (another number is not as told)")
    static void anotherNumberThatIsNotAsToldIsOutside() {
        ChalkTramps x = on("KG2abG7cI20I21I23");
        for (int no : new int[] {LEAST, -1, 256, MOST}) due("write(" + no + ")", x.write(no), OUTSIDE);
        for (int no : new int[] {LEAST, -1, 5, MOST}) due("kiln, what " + no, x.kiln(0, no), OUTSIDE);
        for (int no : new int[] {LEAST, -1, 7, MOST}) due("tramp, what " + no, x.tramp(0, no), OUTSIDE);
        for (int no : new int[] {LEAST, -1, 21, MOST}) due("later, n " + no, x.later(0, no, 0), OUTSIDE);
        for (int no : new int[] {LEAST, -1, 64, MOST}) due("soon, layers " + no, x.soon(0, no, 0), OUTSIDE);
        for (int no : new int[] {LEAST, -1, 0, 5, MOST}) due("judge, n " + no, x.judge(no, 0), OUTSIDE);
        for (int no : new int[] {LEAST, -1, 0, 7, MOST}) due("knew, layer " + no, x.knew(no, 1), OUTSIDE);
        for (int no : new int[] {LEAST, -1, 7, MOST}) due("cold, m " + no, x.cold(0, no, 0, true), OUTSIDE);
        for (int no : new int[] {LEAST, -1, 11, MOST}) due("cold, x " + no, x.cold(0, 0, no, true), OUTSIDE);
        for (int no : new int[] {LEAST, -1, 0, 31, MOST}) due("years(" + no + ")", x.years(no), OUTSIDE);
        for (int no : new int[] {LEAST, -1, 10, MOST}) due("count(" + no + ")", x.count(no), OUTSIDE);
        for (int no : new int[] {LEAST, -1, 2, MOST}) {
            due("later, what " + no, x.later(0, 0, no), OUTSIDE);
            due("soon, what " + no, x.soon(0, 0, no), OUTSIDE);
            due("beneath, what " + no, x.beneath(no), OUTSIDE);
            due("knew, knew " + no, x.knew(1, no), OUTSIDE);
            due("lay, what " + no, x.lay(no), OUTSIDE);
            due("rests, what " + no, x.rests(0, 1, no), OUTSIDE);
        }
        for (long no : new long[] {Long.MIN_VALUE, -1, 1000, Long.MAX_VALUE}) due("judge, row " + no, x.judge(1, no), OUTSIDE);
    }

    @Sentence("STATE (as told), FULL.")
    static void stateAndFullAreRefused() {
        due("hill() of a fault", busy().hill(), STATE);
        due("a hummock walks", busy().walk(0, 1), STATE);
        due("one walks twice", busy().walk(2, 5), STATE);
        due("one walks to where it is", busy().walk(3, 9), STATE);
        due("one walks too far", busy().walk(1, 5), STATE);
        due("told from afar", busy().tell(1, 3), STATE);
        due("a hummock is told", busy().tell(1, 0), STATE);
        due("a hummock is washed", busy().wash(0), STATE);
        due("undo() of no act", busyWithoutActs().undo(), STATE);
        due("again() of an empty slot", busy().again(1), STATE);
        due("the 49th letter", busyWithFullText().write('K'), FULL);
        due("the seventh that one knew", busyWithSixKnew().knew(1, 1), FULL);
    }

    @Sentence("What is refused changes nothing.")
    static void whatIsRefusedChangesNothing() {
        unchanged("write(256)", Checks::busy, x -> x.write(256), OUTSIDE);
        unchanged("hill()", Checks::busy, x -> x.hill(), STATE);
        unchanged("kiln(2, 0)", Checks::busy, x -> x.kiln(2, 0), UNKNOWN);
        unchanged("kiln(0, 5)", Checks::busy, x -> x.kiln(0, 5), OUTSIDE);
        unchanged("tramp(4, 0)", Checks::busy, x -> x.tramp(4, 0), UNKNOWN);
        unchanged("tramp(0, 7)", Checks::busy, x -> x.tramp(0, 7), OUTSIDE);
        unchanged("at(10)", Checks::busy, x -> x.at(10), UNKNOWN);
        unchanged("walk(4, 0)", Checks::busy, x -> x.walk(4, 0), UNKNOWN);
        unchanged("walk(1, 10)", Checks::busy, x -> x.walk(1, 10), UNKNOWN);
        unchanged("walk(0, 1), a hummock", Checks::busy, x -> x.walk(0, 1), STATE);
        unchanged("walk(2, 5), has walked", Checks::busy, x -> x.walk(2, 5), STATE);
        unchanged("walk(3, 9), is there", Checks::busy, x -> x.walk(3, 9), STATE);
        unchanged("walk(1, 5), too far", Checks::busy, x -> x.walk(1, 5), STATE);
        unchanged("tell(0, 4)", Checks::busy, x -> x.tell(0, 4), UNKNOWN);
        unchanged("tell(1, 1)", Checks::busy, x -> x.tell(1, 1), OUTSIDE);
        unchanged("tell(1, 3), not at one place", Checks::busy, x -> x.tell(1, 3), STATE);
        unchanged("tell(1, 0), to a hummock", Checks::busy, x -> x.tell(1, 0), STATE);
        unchanged("wash(4)", Checks::busy, x -> x.wash(4), UNKNOWN);
        unchanged("wash(0), a hummock", Checks::busy, x -> x.wash(0), STATE);
        unchanged("undo() of none", EdgesOfHillTest::busyWithoutActs, x -> x.undo(), STATE);
        unchanged("later(1, 21, 0)", Checks::busy, x -> x.later(1, 21, 0), OUTSIDE);
        unchanged("hummock(4)", Checks::busy, x -> x.hummock(4), UNKNOWN);
        unchanged("soon(1, 64, 0)", Checks::busy, x -> x.soon(1, 64, 0), OUTSIDE);
        unchanged("beneath(2)", Checks::busy, x -> x.beneath(2), OUTSIDE);
        unchanged("judge(1, 1000)", Checks::busy, x -> x.judge(1, 1000), OUTSIDE);
        unchanged("knew(7, 1)", Checks::busy, x -> x.knew(7, 1), OUTSIDE);
        unchanged("knew(1, 2)", Checks::busy, x -> x.knew(1, 2), OUTSIDE);
        unchanged("knew(2, 0) at 6", EdgesOfHillTest::busyWithSixKnew, x -> x.knew(2, 0), FULL);
        unchanged("write(75) at 48", EdgesOfHillTest::busyWithFullText, x -> x.write(75), FULL);
        unchanged("lay(2)", Checks::busy, x -> x.lay(2), OUTSIDE);
        unchanged("share(4, true)", Checks::busy, x -> x.share(4, true), UNKNOWN);
        unchanged("rests(0, 0, 0)", Checks::busy, x -> x.rests(0, 0, 0), OUTSIDE);
        unchanged("cold(0, 7, 0, true)", Checks::busy, x -> x.cold(0, 7, 0, true), OUTSIDE);
        unchanged("years(31)", Checks::busy, x -> x.years(31), OUTSIDE);
        unchanged("years(0)", Checks::busy, x -> x.years(0), OUTSIDE);
        unchanged("keep(2)", Checks::busy, x -> x.keep(2), UNKNOWN);
        unchanged("again(2)", Checks::busy, x -> x.again(2), UNKNOWN);
        unchanged("again(1), none kept", Checks::busy, x -> x.again(1), STATE);
        unchanged("count(10)", Checks::busy, x -> x.count(10), OUTSIDE);
    }

    private static ChalkTramps busyWithoutActs() {
        ChalkTramps x = busy();
        x.again(0);
        return x;
    }

    private static ChalkTramps busyWithSixKnew() {
        ChalkTramps x = busy();
        for (int i = 0; i < 4; i++) x.knew(3, 0);
        return x;
    }

    private static ChalkTramps busyWithFullText() {
        ChalkTramps x = busy();
        for (int i = 0; i < 24; i++) x.write('Z');
        return x;
    }

    @Sentence("NONE is -9.")
    static void noneIsMinusNine() {
        due("NONE", ChalkTramps.NONE, -9);
        ChalkTramps x = on("KG2abG4baI90I83");
        due("fault()", x.fault(), -9);
        due("at(3)", x.at(3), -9);
        due("hummock(0)", x.hummock(0), -9);
        due("soon(0, 32, 0)", x.soon(0, 32, 0), -9);
        due("soon(0, 32, 1)", x.soon(0, 32, 1), -9);
        due("beneath(1)", x.beneath(1), -9);
        due("judge(1, 0)", x.judge(1, 0), -9);
        x.knew(6, 1);
        due("lay(1)", x.lay(1), -9);
    }

    @Sentence("UNKNOWN = -1, OUTSIDE = -2, STATE = -3, FULL = -4, NONE = -9")
    static void theConstants() {
        due("UNKNOWN", ChalkTramps.UNKNOWN, -1);
        due("OUTSIDE", ChalkTramps.OUTSIDE, -2);
        due("STATE", ChalkTramps.STATE, -3);
        due("FULL", ChalkTramps.FULL, -4);
        due("NONE", ChalkTramps.NONE, -9);
    }

    @Sentence("FRACTIONS are told above (upper = true; below 0, if they are), below (1 and more), in least terms")
    static void fractionsAreInLeastTerms() {
        ChalkTramps x = on("KG2abcdI22I22I22I22");
        due("share of nothing, above", x.share(0, true), 0);
        due("share of nothing, below is 1", x.share(0, false), 1);
        x.night();
        due("4 layers by 4, above", x.share(3, true), 1);
        due("4 layers by 4, below", x.share(3, false), 1);
        ChalkTramps y = on("KG2abI22I22I22I22");
        y.night();
        due("2 layers by 4, above", y.share(0, true), 1);
        due("2 layers by 4, below", y.share(0, false), 2);
        due("4 of 10 warm, above", y.cold(0, 2, 6, true), 1);
        due("4 of 10 warm, below", y.cold(0, 2, 6, false), 1);
        ChalkTramps z = on("KG2abG3cG4dG5eI22");
        due("4 of 10, above", z.cold(0, 2, 6, true), 2);
        due("4 of 10, below", z.cold(0, 2, 6, false), 5);
        due("9 of 10, above", z.cold(0, 2, 1, true), 9);
        due("9 of 10, below", z.cold(0, 2, 1, false), 10);
        due("never, above", z.cold(0, 6, 5, true), 0);
        due("never, below", z.cold(0, 6, 5, false), 1);
    }

    @Sentence("refusals of them are told likewise.")
    static void fractionsAreRefusedAboveAndBelow() {
        for (boolean upper : new boolean[] {true, false}) {
            ChalkTramps x = on("KG2abI22");
            due("share(1, " + upper + ")", x.share(1, upper), UNKNOWN);
            due("share(-1, " + upper + ")", x.share(-1, upper), UNKNOWN);
            due("cold(1, 0, 0, " + upper + ")", x.cold(1, 0, 0, upper), UNKNOWN);
            due("cold(0, 7, 0, " + upper + ")", x.cold(0, 7, 0, upper), OUTSIDE);
            due("cold(0, 0, 11, " + upper + ")", x.cold(0, 0, 11, upper), OUTSIDE);
        }
    }

    // ---- ==== 1: the text and the hill

    @Sentence("PLACES are 0 to 9 along a road.")
    static void theRoadHasTwoEnds() {
        ChalkTramps x = on("KG0aG9bI00I90");
        due("at(0)", x.at(0), 0);
        due("at(9)", x.at(9), 1);
        due("at(-1)", x.at(-1), UNKNOWN);
        due("at(10)", x.at(10), UNKNOWN);
        due("0 to 9 is no step: the road is not round", x.walk(0, 9), STATE);
        due("9 to 0 is no step", x.walk(1, 0), STATE);
        due("0 to -1", x.walk(0, -1), UNKNOWN);
        due("9 to 10", x.walk(1, 10), UNKNOWN);
        due("0 to 3", x.walk(0, 3), 3);
        due("9 to 6", x.walk(1, 6), 3);
        due("from 0 to 9 in three nights", on("KG9aI00").soon(0, 1, 1), 369);
        due("from 9 to 0 in three nights", on("KG0aI90").soon(0, 1, 1), 630);
        due("a tramp at 0", on("KI00").tramp(0, 0), 0);
        due("a tramp at 9", on("KI90").tramp(0, 0), 9);
    }

    @Sentence("LAYERS are six: a to f (a is bit 0, b bit 1, .. f bit 5; as figures 1 to 6).")
    static void layersAreAToF() {
        String letters = "abcdef";
        for (int i = 0; i < 6; i++) {
            ChalkTramps x = on("KG0" + letters.charAt(i));
            due("bits of " + letters.charAt(i), x.kiln(0, 2), 1 << i);
            due("figure of " + letters.charAt(i), x.kiln(0, 3), i + 1);
        }
        fault("KG0`", 3);
        fault("KG0g", 3);
        fault("KG0A", 3);
        fault("KG0F", 3);
        due("all six in kilns", on("KG0abcG1def").count(7), 63);
    }

    @Sentence("THE TEXT is letters (48 at most).")
    static void theTextHas48LettersAtMost() {
        ChalkTramps x = new ChalkTramps();
        for (int i = 1; i <= 47; i++) x.write('K');
        due("47 letters", x.count(0), 47);
        due("the 48th", x.write('K'), 48);
        due("the 49th", x.write('K'), FULL);
        due("letters", x.count(0), 48);
        due("wiped", x.wipe(), 48);
        due("there is room again", x.write('K'), 1);
    }

    @Sentence("A HILL is a TEXT: K, then PARTS, none or more")
    static void aHillBeginsWithK() {
        due("no parts", on("K").hill(), 0);
        due("a kiln alone", on("KG5a").hill(), 10);
        due("a tramp alone", on("KI50").hill(), 1);
        due("eight parts", on(LARGEST).hill(), 44);
        due("tramps ahead of kilns", on("KI50I60G5aI70G6b").hill(), 23);
        fault("", 0);
        fault("G5a", 0);
        fault("I50", 0);
        fault("k", 0);
        fault("J", 0);
        fault("L", 0);
        fault("KK", 1);
        fault("KG5aK", 4);
        fault("KF", 1);
        fault("KH", 1);
        fault("KJ", 1);
        fault("K" + (char) 0, 1);
        fault("K" + (char) 255, 1);
    }

    @Sentence("KILNS (4 at most), TRAMPS (4 at most) are numbered as they are told, each for itself")
    static void fourKilnsAndFourTramps() {
        due("four kilns", on("KG9aG0bG5cG4d").hill(), 40);
        fault("KG9aG0bG5cG4dG", 13);
        fault("KG9aG0bG5cG4dG3e", 13);
        due("four tramps", on("KI90I01I52I43").hill(), 4);
        fault("KI90I01I52I43I", 13);
        fault("KI90I01I52I43I30", 13);
        fault("KG9aG0bG5cG4dI", 14);
        fault("KI90I01I52I43G", 14);
        fault("KG9aG0bG5cG4dI90I91I92I93G", 25);
        ChalkTramps x = on("KI11G9aI30G2bI52G0cI73G5d");
        int[] kilns = {9, 2, 0, 5};
        int[] tramps = {1, 3, 5, 7};
        for (int i = 0; i < 4; i++) {
            due("place of kiln " + i, x.kiln(i, 0), kilns[i]);
            due("place of tramp " + i, x.tramp(i, 0), tramps[i]);
        }
    }

    @Sentence("Gp and 1 to 4 LAYERS")
    static void aKilnHasOneToFourLayers() {
        fault("KG5", 3);
        fault("KG5G", 3);
        fault("KG5I", 3);
        due("one layer", on("KG5f").kiln(0, 1), 1);
        due("four layers", on("KG5fedc").kiln(0, 1), 4);
        fault("KG5fedcb", 7);
        fault("KG5fedcbI", 7);
        due("one layer, then a tramp", on("KG5fI50").hill(), 11);
        due("four layers, then a kiln", on("KG5fedcG4a").hill(), 20);
        due("four layers, then a kiln of one", on("KG5fedcG4a").kiln(1, 1), 1);
    }

    @Sentence("each a letter a to f")
    static void aLayerIsALetterAToF() {
        fault("KG5a`", 4);
        fault("KG5ag", 4);
        fault("KG5a0", 4);
        fault("KG5aA", 4);
        fault("KG51", 3);
        due("a and f", on("KG5af").kiln(0, 3), 16);
    }

    @Sentence("none twice in it")
    static void noLayerIsTwiceInAKiln() {
        fault("KG5aa", 4);
        fault("KG5aba", 5);
        fault("KG5fbcf", 6);
        due("twice in two kilns is no fault", on("KG5abG6ba").hill(), 20);
    }

    @Sentence("a KILN at PLACE p (0 to 9, where none is told yet)")
    static void aKilnIsWhereNoneIsToldYet() {
        fault("KG/", 2);
        fault("KG:", 2);
        fault("KGa", 2);
        for (int place = 0; place <= 9; place++) due("a kiln at " + place, on("KG" + place + "a").at(place), 0);
        fault("KG5aG5", 5);
        fault("KG5aG5b", 5);
        fault("KG5aG6bG5", 8);
        fault("KG0aG9bG1cG0", 11);
        due("where a tramp is told is no fault", on("KI50G5a").hill(), 11);
    }

    @Sentence("its LAYERS from the top down")
    static void layersAreFromTheTopDown() {
        ChalkTramps x = on("KG5fdabI50");
        due("figures", x.kiln(0, 3), 6412);
        x.night();
        due("the first is topmost", x.tramp(0, 2), 32);
        nights(x, 2);
        due("the last is not taken yet", x.tramp(0, 2), 32 + 8 + 1);
        x.night();
        due("the last is taken last", x.tramp(0, 2), 43);
    }

    @Sentence("Ipk a TRAMP at PLACE p")
    static void aTrampIsAtAPlace() {
        fault("KI", 2);
        fault("KI/", 2);
        fault("KI:", 2);
        fault("KIG", 2);
        for (int place = 0; place <= 9; place++) due("a tramp at " + place, on("KI" + place + "0").tramp(0, 0), place);
        due("two at one place are no fault", on("KI50I50").hill(), 2);
    }

    @Sentence("of KIND k: 0 PLAIN, 1 QUICK, 2 CHALKY, 3 TELLER")
    static void aTrampIsOfAKind() {
        fault("KI5", 3);
        fault("KI5/", 3);
        fault("KI54", 3);
        fault("KI5I", 3);
        for (int kind = 0; kind <= 3; kind++) due("kind " + kind, on("KI5" + kind).tramp(0, 1), kind);
        fault("KI500", 4);
        fault("KI50a", 4);
    }

    @Sentence("FAULT: the place of the first letter by which THE TEXT can be no HILL, whatever came behind it (its length set aside)")
    static void theFaultIsTheFirstLetter() {
        fault("XX", 0);
        fault("KXX", 1);
        fault("KG5aaG5bb", 4);
        fault("KG5aG5I99", 5);
        fault("KI59I59", 3);
        fault("KG0aG1aG2aG3aG4a", 13);
        fault(LARGEST + "K", 37);
        fault(LARGEST + "GGGGGGGGGGG", 37);
        fault("X" + "K".repeat(47), 0);
        fault("K".repeat(48), 1);
    }

    @Sentence("its length, if it is only not at its end")
    static void theFaultIsTheLengthOfATextNotAtItsEnd() {
        fault("", 0);
        fault("KG", 2);
        fault("KG5", 3);
        fault("KI", 2);
        fault("KI5", 3);
        fault("KG5abcdG", 8);
        fault("KG5abcdI5", 9);
        fault(LARGEST.substring(0, 36), 36);
        fault(LARGEST.substring(0, 35), 35);
    }

    @Sentence("NONE: none. At first there are no KILNS, no TRAMPS.")
    static void atFirstThereIsNothing() {
        fault("K", NONE);
        fault("KG5a", NONE);
        fault("KG5abcd", NONE);
        fault("KI50", NONE);
        fault(LARGEST, NONE);
        ChalkTramps x = new ChalkTramps();
        due("kilns", x.count(1), 0);
        due("tramps", x.count(2), 0);
        text(x, LARGEST);
        due("a text alone is no hill: kilns", x.count(1), 0);
        due("a text alone is no hill: tramps", x.count(2), 0);
        due("kiln 0", x.kiln(0, 0), UNKNOWN);
        due("tramp 0", x.tramp(0, 0), UNKNOWN);
    }

    @Sentence("When THE HILL is made anew, TRAMPS are as told, know nothing, are WHITE by 0, nobody has WALKED, THE NIGHT is 0.")
    static void aHillMadeAnewIsAsTold() {
        ChalkTramps x = on("KG2abcdG5eI22I20I41I53");
        nights(x, 6);
        x.walk(1, 3);
        x.walk(2, 5);
        due("a hummock ahead of it", x.count(4), 1);
        due("walked ahead of it", x.count(5), 6);
        due("hill()", x.hill(), 24);
        int[] places = {2, 2, 4, 5};
        int[] kinds = {2, 0, 1, 3};
        for (int tramp = 0; tramp < 4; tramp++) {
            due("place of " + tramp, x.tramp(tramp, 0), places[tramp]);
            due("kind of " + tramp, x.tramp(tramp, 1), kinds[tramp]);
            due("it knows nothing", x.tramp(tramp, 2), 0);
            due("it is white by 0", x.tramp(tramp, 3), 0);
            due("it has not walked", x.tramp(tramp, 5), 0);
            due("it is no hummock", x.tramp(tramp, 6), 0);
        }
        due("the night", x.count(3), 0);
        due("it may walk", x.walk(2, 5), 1);
    }

    // ---- ==== 1: hummocks, nights, acts

    /** A plain tramp that was white by 8 when it lay up at 3: it is a hummock there, and knows a and b of a, b, c, d. */
    private static ChalkTramps newHummock() {
        ChalkTramps x = on("KG2aG3bcdI20I31");
        nights(x, 8);
        x.walk(0, 3);
        x.night();
        return x;
    }

    @Sentence("A TRAMP that is WHITE by 9 is a HUMMOCK: it never walks, takes nothing, and is not washed; what it knows it knows.")
    static void whiteBy9IsAHummock() {
        ChalkTramps x = on("KG2aI20");
        nights(x, 8);
        due("white by 8", x.tramp(0, 3), 8);
        due("is no hummock", x.tramp(0, 6), 0);
        due("it walks", x.walk(0, 3), 1);
        due("it is washed", x.wash(0), 1);
        ChalkTramps y = newHummock();
        due("white by 9", y.tramp(0, 3), 9);
        due("is a hummock", y.tramp(0, 6), 1);
        due("at 8 it took still", y.tramp(0, 2), 3);
        due("hummocks", y.count(4), 3);
        for (int place = 0; place <= 9; place++) due("it never walks to " + place, y.walk(0, place), STATE);
        due("it is not washed", y.wash(0), STATE);
        nights(y, 2);
        due("it takes nothing; what it knows it knows", y.tramp(0, 2), 3);
        due("it is not whiter", y.tramp(0, 3), 9);
        due("later it takes nothing either", y.later(0, 20, 0), 3);
    }

    @Sentence("Its SPEED is 3 less what WHITE by 3 (cut) is: 3, 2, 1, 0.")
    static void speedFallsBy3() {
        int[] speeds = {3, 3, 3, 2, 2, 2, 1, 1, 1, 0, 0};
        ChalkTramps x = on("KG2aI20");
        for (int night = 0; night <= 10; night++) {
            due("speed behind " + night + " nights", x.tramp(0, 4), speeds[night]);
            x.night();
        }
    }

    @Sentence("by number each TRAMP that is no HUMMOCK and at whose PLACE there is a KILN takes LAYERS of it that it does not know")
    static void whereThereIsNoKilnNothingIsTaken() {
        ChalkTramps x = on("KG2bG3abcdI20I21I10I92");
        x.night();
        due("beside a kiln: nothing", x.tramp(2, 2), 0);
        due("beside a kiln: not whiter", x.tramp(2, 3), 0);
        due("at the end of the road: nothing", x.tramp(3, 2), 0);
        due("at the end of the road: not whiter", x.tramp(3, 3), 0);
        x.walk(0, 3);
        x.walk(1, 3);
        x.night();
        due("plain: a, not b, which it knows", x.tramp(0, 2), 3);
        due("quick: a and c, not b", x.tramp(1, 2), 7);
        x.night();
        due("plain: c", x.tramp(0, 2), 7);
        due("quick: d, the last", x.tramp(1, 2), 15);
        ChalkTramps none = on("KI20I21I22I23");
        due("no kilns: a night", none.night(), 0);
        due("no kilns: nothing is known", none.count(6), 0);
        due("no tramps: a night", on("KG2a").night(), 0);
        ChalkTramps y = newHummock();
        y.night();
        due("a hummock: nothing", y.tramp(0, 2), 3);
    }

    @Sentence("from the top down: PLAIN, TELLER: one; QUICK: two; CHALKY: all (or as many as there are)")
    static void kindsTakeAsManyAsThereAre() {
        int[] plain = {32, 34, 42, 43, 43};
        int[] quick = {34, 43, 43, 43, 43};
        int[] teller = {4, 20, 52, 52, 52};
        ChalkTramps x = on("KG2fbdaG8cefI20I21I22I83");
        for (int night = 0; night < 5; night++) {
            x.night();
            due("plain, night " + night, x.tramp(0, 2), plain[night]);
            due("quick, night " + night, x.tramp(1, 2), quick[night]);
            due("chalky, night " + night, x.tramp(2, 2), 43);
            due("teller, night " + night, x.tramp(3, 2), teller[night]);
        }
        int[] ofThree = {3, 7, 7};
        ChalkTramps y = on("KG2abcG4dI21I41I42");
        for (int night = 0; night < 3; night++) {
            y.night();
            due("quick, of three, night " + night, y.tramp(0, 2), ofThree[night]);
            due("quick, of one, night " + night, y.tramp(1, 2), 8);
            due("chalky, of one, night " + night, y.tramp(2, 2), 8);
        }
    }

    @Sentence("it is 1 more WHITE (CHALKY 2; 9 at most).")
    static void whiteBy9AtMost() {
        ChalkTramps x = on("KG2aI20I21I22I23");
        for (int night = 1; night <= 11; night++) {
            x.night();
            due("plain, night " + night, x.tramp(0, 3), Math.min(9, night));
            due("quick, night " + night, x.tramp(1, 3), Math.min(9, night));
            due("chalky, night " + night, x.tramp(2, 3), Math.min(9, 2 * night));
            due("teller, night " + night, x.tramp(3, 3), Math.min(9, night));
        }
    }

    /** What a teller (of a) that is white by so much ahead of a night knows behind it, when one who knows b has come to it. */
    private static int heardWhiteBy(int white) {
        ChalkTramps x = on("KG2aG5bI23I50");
        x.night();
        x.walk(1, 4);
        nights(x, white - 1);
        x.walk(1, 2);
        due("white ahead of it", x.tramp(0, 3), white);
        x.night();
        return x.tramp(0, 2);
    }

    @Sentence("Then, by number, each TELLER that is no HUMMOCK knows what any TRAMP at its PLACE knows, HUMMOCKS, too.")
    static void tellersHearThoseAtTheirPlace() {
        due("white by 8 behind it: it hears", heardWhiteBy(7), 3);
        due("white by 9 behind it: it does not", heardWhiteBy(8), 1);
        ChalkTramps x = on("KG2abcdI22I23I13");
        nights(x, 5);
        due("one is a hummock", x.tramp(0, 6), 1);
        due("a place beside is not its place", x.tramp(2, 2), 0);
        x.wash(1);
        x.night();
        due("it hears a hummock", x.tramp(1, 2), 15);
        ChalkTramps y = on("KG2abI22I20I31I33");
        y.night();
        y.walk(0, 3);
        y.night();
        due("where there is no kiln a teller hears, too", y.tramp(3, 2), 3);
        due("and is not whiter", y.tramp(3, 3), 0);
        due("one that is no teller does not hear", y.tramp(2, 2), 0);
        ChalkTramps alone = on("KG2abI23");
        alone.night();
        due("alone: the one layer that it took", alone.tramp(0, 2), 1);
        ChalkTramps two = on("KG2aI33I33I20");
        two.night();
        two.walk(2, 3);
        two.night();
        due("the first of two tellers", two.tramp(0, 2), 1);
        ChalkTramps first = on("KG2abcdI23I22");
        first.night();
        due("then: what a later number took in this night", first.tramp(0, 2), 15);
        due("the second of two tellers", two.tramp(1, 2), 1);
    }

    @Sentence("Nobody has WALKED any more; THE NIGHT is one more.")
    static void theNightIsOneMore() {
        ChalkTramps x = on("KI20I30I40I00");
        due("night 0", x.count(3), 0);
        for (int tramp = 0; tramp < 4; tramp++) x.walk(tramp, 1);
        due("all have walked", x.count(5), 15);
        x.night();
        due("nobody has walked", x.count(5), 0);
        due("night 1", x.count(3), 1);
        due("one may walk", x.walk(0, 2), 1);
        nights(x, 99);
        due("night 100", x.count(3), 100);
    }

    private static ChalkTramps lainUp(int nights) {
        ChalkTramps x = on("KG5aI50");
        nights(x, nights);
        return x;
    }

    @Sentence("WALKED: a TRAMP that has not WALKED since the last NIGHT goes to another PLACE that is no farther than its SPEED.")
    static void oneWalksNoFartherThanItsSpeed() {
        int[] speeds = {3, 3, 3, 2, 2, 2, 1, 1, 1, 0};
        for (int nights = 0; nights <= 9; nights++) {
            int speed = speeds[nights];
            due("too far ahead, " + nights, lainUp(nights).walk(0, 5 + speed + 1), STATE);
            due("too far back, " + nights, lainUp(nights).walk(0, 5 - speed - 1), STATE);
            due("no other place, " + nights, lainUp(nights).walk(0, 5), STATE);
            if (speed == 0) continue;
            due("just so far ahead, " + nights, lainUp(nights).walk(0, 5 + speed), speed);
            due("just so far back, " + nights, lainUp(nights).walk(0, 5 - speed), speed);
            due("one step, " + nights, lainUp(nights).walk(0, 6), 1);
        }
        ChalkTramps x = lainUp(0);
        x.walk(0, 6);
        due("it has walked", x.walk(0, 7), STATE);
        due("not back either", x.walk(0, 5), STATE);
        x.wash(0);
        due("a bath is no night", x.walk(0, 7), STATE);
        x.night();
        due("behind a night", x.walk(0, 7), 1);
        x.undo();
        due("behind an undone walk", x.walk(0, 8), 2);
    }

    @Sentence("TOLD: of two TRAMPS at one PLACE the other one, that is no HUMMOCK, knows all that the one knows as well.")
    static void aHummockIsNotTold() {
        ChalkTramps x = on("KG2abcdG5efI22I20I50");
        nights(x, 4);
        due("to one that is white by 8", x.tell(1, 0), 4);
        x.night();
        due("to one that is white by 9", x.tell(1, 0), STATE);
        due("by one that is white by 9", x.tell(0, 1), 4);
        due("not at one place", x.tell(0, 2), STATE);
        ChalkTramps y = on("KG2abG3bcI21I31");
        y.night();
        y.walk(1, 2);
        due("as well: what it knew it knows", y.tell(0, 1), 3);
        due("the other one", y.tramp(1, 2), 7);
        due("the one is as it was", y.tramp(0, 2), 3);
        due("by one that knows nothing", on("KI20I20").tell(0, 1), 0);
    }

    @Sentence("WASHED: a TRAMP that is no HUMMOCK knows nothing, and is WHITE by 0.")
    static void aHummockIsNotWashed() {
        ChalkTramps x = on("KG2abI20");
        due("one that knows nothing", x.wash(0), 0);
        nights(x, 8);
        due("white by 8", x.wash(0), 2);
        due("it knows nothing", x.tramp(0, 2), 0);
        due("it is white by 0", x.tramp(0, 3), 0);
        nights(x, 9);
        due("white by 9", x.wash(0), STATE);
        due("it knows", x.tramp(0, 2), 3);
        due("it is white", x.tramp(0, 3), 9);
    }

    @Sentence("ACTS (NIGHTS, WALKED, TOLD, WASHED) are a row (14 at most; of more the first one is forgotten); the last one can be undone.")
    static void theRowHas14ActsAtMost() {
        ChalkTramps x = on("KG2abI20I20");
        x.walk(0, 3);
        nights(x, 13);
        due("14 acts", x.count(8), 14);
        for (int left = 13; left >= 0; left--) due("undone", x.undo(), left);
        due("of 14 none is forgotten", x.tramp(0, 0), 2);
        due("no act is left", x.undo(), STATE);
        x.walk(0, 3);
        nights(x, 14);
        due("14 acts of 15", x.count(8), 14);
        for (int left = 13; left >= 0; left--) {
            due("undone", x.undo(), left);
            due("the night then", x.count(3), left);
            due("the other one is white by as many then", x.tramp(1, 3), Math.min(9, left));
        }
        due("of 15 the first one is forgotten", x.tramp(0, 0), 3);
        due("no act is left", x.undo(), STATE);
        ChalkTramps each = on("KG2abI20I20");
        each.night();
        due("a night is an act", each.count(8), 1);
        each.walk(0, 3);
        due("a walk is one", each.count(8), 2);
        each.wash(1);
        due("a bath is one", each.count(8), 3);
        each.walk(1, 3);
        each.tell(0, 1);
        due("a telling is one", each.count(8), 5);
        each.undo();
        due("the last one is undone: the telling", each.tramp(1, 2), 0);
        each.undo();
        due("then the walk", each.tramp(1, 0), 2);
        each.undo();
        due("then the bath", each.tramp(1, 2), 1);
        ChalkTramps late = on("KI20I20I20");
        nights(late, 12);
        for (int tramp = 0; tramp < 3; tramp++) late.walk(tramp, 3);
        int[] walked = {3, 1, 0};
        for (int i = 0; i < 3; i++) {
            due("of 15 acts the last ones are not forgotten", late.undo(), 13 - i);
            due("who had walked ahead of them", late.count(5), walked[i]);
        }
        ChalkTramps many = on("KI20I30I40I00");
        for (int tramp = 0; tramp < 4; tramp++) many.walk(tramp, 1);
        many.night();
        many.undo();
        due("who had walked, all of them", many.count(5), 15);
        many.undo();
        due("but for the last", many.count(5), 7);
    }
}
