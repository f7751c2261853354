/** The sentences of the promises 1 to 29 that name a boundary, each with a test of its own. */
public final class EdgesOfPromisesTest extends Checks {
    public static void main(String[] args) {
        runSentences(EdgesOfPromisesTest.class);
    }

    // ---- the hill

    @Sentence("No kilns, no tramps.")
    static void p1NewObject() {
        ChalkTramps x = new ChalkTramps();
        for (int what = 0; what <= 9; what++) due("count(" + what + ")", x.count(what), 0);
        due("kiln(0, 0)", x.kiln(0, 0), UNKNOWN);
        due("tramp(0, 0)", x.tramp(0, 0), UNKNOWN);
        for (int place = 0; place <= 9; place++) due("at(" + place + ")", x.at(place), NONE);
        due("fault()", x.fault(), 0);
        due("hill()", x.hill(), STATE);
        due("undo()", x.undo(), STATE);
        due("again(0)", x.again(0), STATE);
        due("again(1)", x.again(1), STATE);
        due("seed(0)", x.seed(0), 0);
        due("night()", x.night(), 0);
    }

    @Sentence("A letter (0 to 255) comes behind THE TEXT: how long it is.")
    static void p2Letters() {
        ChalkTramps x = new ChalkTramps();
        due("write(-1)", x.write(-1), OUTSIDE);
        due("write(0)", x.write(0), 1);
        due("write(255)", x.write(255), 2);
        due("write(256)", x.write(256), OUTSIDE);
        due("write(75 + 256): letters do not wrap", x.write(75 + 256), OUTSIDE);
        due("letters", x.count(0), 2);
        ChalkTramps behind = written("KI");
        behind.write('9');
        behind.write('3');
        behind.hill();
        due("behind the text", 10 * behind.tramp(0, 0) + behind.tramp(0, 1), 93);
    }

    @Sentence("OUTSIDE; FULL: there are 48.")
    static void p2Full() {
        ChalkTramps x = new ChalkTramps();
        for (int letter = 1; letter <= 48; letter++) due("letter " + letter, x.write('K'), letter);
        due("the 49th", x.write('K'), FULL);
        due("once more", x.write(0), FULL);
        due("OUTSIDE at 48", x.write(-1), OUTSIDE);
        due("letters", x.count(0), 48);
        due("the text is as it was", x.fault(), 1);
    }

    @Sentence("THE TEXT is empty: how long it was.")
    static void p3Wipe() {
        ChalkTramps x = new ChalkTramps();
        due("of an empty text", x.wipe(), 0);
        for (int letter = 1; letter <= 48; letter++) x.write('X');
        due("of a full text", x.wipe(), 48);
        due("it is empty", x.count(0), 0);
        due("it is empty: fault()", x.fault(), 0);
        due("again", x.wipe(), 0);
        x.write('K');
        due("nothing is left of it", x.fault(), NONE);
        ChalkTramps y = on("KG5aI50");
        y.night();
        y.wipe();
        due("the hill stays", 10 * y.count(1) + y.count(2), 11);
        due("the night stays", y.count(3), 1);
        due("the acts stay", y.count(8), 1);
    }

    @Sentence("FAULT; NONE.")
    static void p4Fault() {
        due("an empty text", written("").fault(), 0);
        due("the first letter", written("X").fault(), 0);
        due("none", written("K").fault(), NONE);
        due("none, the longest hill", written(LARGEST).fault(), NONE);
        due("behind the longest hill", written(LARGEST + "I").fault(), 37);
        due("a full text", written(LARGEST + "IIIIIIIIIII").fault(), 37);
        unchanged("fault()", Checks::busy, x -> x.fault(), 23);
    }

    @Sentence("THE TEXT is THE HILL (THE ROW of ACTS is empty, what was kept is gone; KNEW, THE SEED stay): 10 times KILNS, and TRAMPS.")
    static void p5Hill() {
        due("the least hill", on("K").hill(), 0);
        due("the most", on(LARGEST).hill(), 44);
        ChalkTramps x = busy();
        x.keep(1);
        text(x, "KG9fI90I81");
        due("hill()", x.hill(), 12);
        due("the row is empty", x.count(8), 0);
        due("undo()", x.undo(), STATE);
        due("what was kept is gone: 0", x.again(0), STATE);
        due("what was kept is gone: 1", x.again(1), STATE);
        due("KNEW stays", x.count(9), 2);
        due("KNEW stays: a is not in this hill", x.lay(0), 0);
        due("THE SEED stays", x.seed(0), 12345);
        due("THE TEXT stays", x.count(0), 10);
        due("the kiln", x.kiln(0, 3), 6);
        due("tramps", x.kiln(0, 4), 1);
        ChalkTramps same = on("KG5aI50");
        same.keep(0);
        same.night();
        same.hill();
        due("of the same text: the row is empty", same.count(8), 0);
        due("of the same text: what was kept is gone", same.again(0), STATE);
    }

    @Sentence("STATE: a FAULT.")
    static void p5Refused() {
        for (String text : new String[] {"", "X", "KG", "KG5", "KI5", "KG5aa", "KG5aG5", LARGEST + "K", LARGEST.substring(0, 36)}) {
            unchanged("hill() of '" + text + "'", () -> rewritten(text), x -> x.hill(), STATE);
        }
    }

    /** The hill stays as it was made: another text is only written behind it. */
    private static ChalkTramps rewritten(String text) {
        ChalkTramps x = on("KG2abI21I30");
        x.night();
        x.keep(0);
        x.walk(0, 3);
        text(x, text);
        return x;
    }

    @Sentence("Of a KILN its PLACE (what = 0), how many LAYERS (1), which as bits (2), as figures from the top down (3), TRAMPS at its PLACE (4: bits). UNKNOWN; OUTSIDE.")
    static void p6Kiln() {
        ChalkTramps x = on("KG0aG9fedcI00I01I02I03");
        int[] first = {0, 1, 1, 1, 15};
        int[] last = {9, 4, 60, 6543, 0};
        for (int what = 0; what <= 4; what++) {
            due("kiln(0, " + what + ")", x.kiln(0, what), first[what]);
            due("kiln(1, " + what + ")", x.kiln(1, what), last[what]);
        }
        due("kiln(-1, 0)", x.kiln(-1, 0), UNKNOWN);
        due("kiln(2, 0)", x.kiln(2, 0), UNKNOWN);
        due("kiln(0, -1)", x.kiln(0, -1), OUTSIDE);
        due("kiln(0, 5)", x.kiln(0, 5), OUTSIDE);
        due("kiln(2, 5)", x.kiln(2, 5), UNKNOWN);
        due("kiln 3 of four", on(LARGEST).kiln(3, 0), 9);
        due("kiln 4 of four", on(LARGEST).kiln(4, 0), UNKNOWN);
        x.walk(3, 1);
        due("one has gone", x.kiln(0, 4), 7);
    }

    @Sentence("Of a TRAMP its PLACE (what = 0), KIND (1), what it knows (2: bits), how WHITE it is (3), SPEED (4), 1 if it has WALKED (5), 1 if it is a HUMMOCK (6). UNKNOWN; OUTSIDE.")
    static void p7Tramp() {
        ChalkTramps x = on("KG9fabcI92I03");
        int[] atFirst = {9, 2, 0, 0, 3, 0, 0};
        for (int what = 0; what <= 6; what++) due("at first, what " + what, x.tramp(0, what), atFirst[what]);
        nights(x, 5);
        int[] hummock = {9, 2, 39, 9, 0, 0, 1};
        for (int what = 0; what <= 6; what++) due("a hummock, what " + what, x.tramp(0, what), hummock[what]);
        x.walk(1, 1);
        int[] walked = {1, 3, 0, 0, 3, 1, 0};
        for (int what = 0; what <= 6; what++) due("has walked, what " + what, x.tramp(1, what), walked[what]);
        due("tramp(-1, 0)", x.tramp(-1, 0), UNKNOWN);
        due("tramp(2, 0)", x.tramp(2, 0), UNKNOWN);
        due("tramp(0, -1)", x.tramp(0, -1), OUTSIDE);
        due("tramp(0, 7)", x.tramp(0, 7), OUTSIDE);
        due("tramp(2, 7)", x.tramp(2, 7), UNKNOWN);
        due("tramp 3 of four", on(LARGEST).tramp(3, 0), 9);
        due("tramp 4 of four", on(LARGEST).tramp(4, 0), UNKNOWN);
    }

    @Sentence("The KILN at a PLACE; NONE. UNKNOWN.")
    static void p8At() {
        ChalkTramps x = on("KG9aG0bI50");
        due("at(0)", x.at(0), 1);
        due("at(9)", x.at(9), 0);
        due("at(1)", x.at(1), NONE);
        due("at(8)", x.at(8), NONE);
        due("at(5), a tramp alone", x.at(5), NONE);
        due("at(-1)", x.at(-1), UNKNOWN);
        due("at(10)", x.at(10), UNKNOWN);
        due("at(0) of no kilns", on("K").at(0), NONE);
        due("the last of four", on(LARGEST).at(9), 3);
    }

    // ---- acts

    @Sentence("A NIGHT: how many HUMMOCKS there are then.")
    static void p9Night() {
        due("no tramps", new ChalkTramps().night(), 0);
        ChalkTramps x = on("KG2aI22I20I21I23");
        int[] hummocks = {0, 0, 0, 0, 1, 1, 1, 1, 4, 4};
        for (int night = 0; night < 10; night++) due("night " + night, x.night(), hummocks[night]);
        due("the night", x.count(3), 10);
        due("ten acts", x.count(8), 10);
    }

    @Sentence("WALKED: how far. UNKNOWN: both")
    static void p10WalkUnknown() {
        for (int tramp : new int[] {LEAST, -1, 2, 4, MOST}) {
            unchanged("walk(" + tramp + ", 3)", () -> on("KG2aI20I30"), x -> x.walk(tramp, 3), UNKNOWN);
        }
        for (int place : new int[] {LEAST, -1, 10, MOST}) {
            unchanged("walk(0, " + place + ")", () -> on("KG2aI20I30"), x -> x.walk(0, place), UNKNOWN);
        }
        due("how far back, to the end", on("KI30").walk(0, 0), 3);
        due("how far ahead, to the end", on("KI60").walk(0, 9), 3);
        due("one step", on("KI30").walk(0, 4), 1);
    }

    @Sentence("STATE: it is a HUMMOCK, has WALKED, is there, it is too far.")
    static void p10WalkState() {
        unchanged("a hummock, one step back", Checks::busy, x -> x.walk(0, 1), STATE);
        unchanged("a hummock, one step ahead", Checks::busy, x -> x.walk(0, 3), STATE);
        unchanged("has walked", Checks::busy, x -> x.walk(2, 7), STATE);
        unchanged("is there", Checks::busy, x -> x.walk(1, 2), STATE);
        unchanged("too far, speed 2", Checks::busy, x -> x.walk(1, 5), STATE);
        unchanged("too far, speed 3", Checks::busy, x -> x.walk(3, 5), STATE);
        due("not too far, speed 2", busy().walk(1, 4), 2);
        due("not too far, speed 3", busy().walk(3, 6), 3);
    }

    @Sentence("TOLD: how many LAYERS the other one knows then. UNKNOWN: both; OUTSIDE: both are one")
    static void p11TellUnknown() {
        for (int no : new int[] {LEAST, -1, 2, 4, MOST}) {
            unchanged("tell(" + no + ", 0)", () -> on("KG2aI20I20"), x -> x.tell(no, 0), UNKNOWN);
            unchanged("tell(0, " + no + ")", () -> on("KG2aI20I20"), x -> x.tell(0, no), UNKNOWN);
            unchanged("tell(" + no + ", " + no + ")", () -> on("KG2aI20I20"), x -> x.tell(no, no), UNKNOWN);
        }
        unchanged("tell(0, 0)", () -> on("KG2aI20I20"), x -> x.tell(0, 0), OUTSIDE);
        unchanged("tell(1, 1)", () -> on("KG2aI20I20"), x -> x.tell(1, 1), OUTSIDE);
        due("nothing", on("KI20I20").tell(0, 1), 0);
        ChalkTramps x = on("KG2abcdG3efI22I32");
        x.night();
        x.walk(1, 2);
        due("all six", x.tell(0, 1), 6);
    }

    @Sentence("STATE: they are not at one PLACE, the other one is a HUMMOCK.")
    static void p11TellState() {
        unchanged("not at one place", Checks::busy, x -> x.tell(1, 2), STATE);
        unchanged("not at one place, by a hummock", Checks::busy, x -> x.tell(0, 3), STATE);
        unchanged("the other one is a hummock", Checks::busy, x -> x.tell(1, 0), STATE);
        due("the one is a hummock", busy().tell(0, 1), 4);
    }

    @Sentence("WASHED: how many LAYERS it knew. UNKNOWN; STATE: it is a HUMMOCK.")
    static void p12Wash() {
        for (int no : new int[] {LEAST, -1, 4, MOST}) unchanged("wash(" + no + ")", Checks::busy, x -> x.wash(no), UNKNOWN);
        unchanged("a hummock", Checks::busy, x -> x.wash(0), STATE);
        due("it knew four", busy().wash(1), 4);
        due("it knew none", busy().wash(3), 0);
        due("white by 8", whiteBy8().wash(0), 1);
        ChalkTramps x = busy();
        x.wash(3);
        due("of one who knows nothing it is an act, too", x.count(8), 8);
    }

    private static ChalkTramps whiteBy8() {
        ChalkTramps x = on("KG2aI20");
        nights(x, 8);
        return x;
    }

    @Sentence("The last ACT is undone: how many are left. STATE: there is none.")
    static void p13Undo() {
        unchanged("a new object", ChalkTramps::new, x -> x.undo(), STATE);
        unchanged("a new hill", () -> on("KG2aI20"), x -> x.undo(), STATE);
        ChalkTramps x = on("KG2aI20");
        x.night();
        due("the only one", x.undo(), 0);
        due("it is undone", x.count(3), 0);
        due("there is none", x.undo(), STATE);
        nights(x, 20);
        due("of twenty, 14 in the row", x.undo(), 13);
        for (int left = 12; left >= 0; left--) due("left", x.undo(), left);
        due("there is none", x.undo(), STATE);
        due("six nights can not be undone", x.count(3), 6);
        ChalkTramps hummock = on("KG2abI20I22");
        nights(hummock, 5);
        hummock.undo();
        due("a hummock is none any more", hummock.tramp(1, 3), 8);
        due("it is washed then", hummock.wash(1), 2);
        ChalkTramps refused = busy();
        refused.walk(0, 1);
        due("a refused call is no act", refused.undo(), 6);
    }

    // ---- nights to come, the land

    @Sentence("IN n NIGHTS: what it knows, as bits (what = 0), how WHITE (1). UNKNOWN; OUTSIDE: n, what.")
    static void p14Later() {
        ChalkTramps x = on("KG2fedcI21");
        due("n = 0", x.later(0, 0, 0), 0);
        due("n = 1", x.later(0, 1, 0), 48);
        due("n = 20", x.later(0, 20, 0), 60);
        due("n = 8, white", x.later(0, 8, 1), 8);
        due("n = 9, white", x.later(0, 9, 1), 9);
        due("n = 20, white", x.later(0, 20, 1), 9);
        due("n = -1", x.later(0, -1, 0), OUTSIDE);
        due("n = 21", x.later(0, 21, 1), OUTSIDE);
        due("what = -1", x.later(0, 0, -1), OUTSIDE);
        due("what = 2", x.later(0, 20, 2), OUTSIDE);
        due("tramp -1", x.later(-1, 0, 0), UNKNOWN);
        due("tramp 1 of one", x.later(1, 0, 0), UNKNOWN);
        due("tramp 1, n = 21", x.later(1, 21, 0), UNKNOWN);
    }

    @Sentence("HUMMOCK; NONE. UNKNOWN.")
    static void p15Hummock() {
        ChalkTramps x = busy();
        due("it is one", x.hummock(0), 0);
        due("in four", x.hummock(1), 4);
        due("never", x.hummock(2), NONE);
        due("tramp -1", x.hummock(-1), UNKNOWN);
        due("tramp 4", x.hummock(4), UNKNOWN);
        due("a new object's", new ChalkTramps().hummock(0), UNKNOWN);
        due("the most nights", on("KG2aI20").hummock(0), 9);
    }

    @Sentence("SOON: how many (what = 0), where to (1); NONE. UNKNOWN; OUTSIDE: layers (0 to 63), what.")
    static void p16Soon() {
        ChalkTramps x = on("KG5abcdG6efI52I20");
        due("layers = 0, how many", x.soon(0, 0, 0), 0);
        due("layers = 0, where to", x.soon(0, 0, 1), 0);
        due("layers = 63, how many", x.soon(0, 63, 0), 2);
        due("layers = 63, where to", x.soon(0, 63, 1), 56);
        due("layers = 0 behind another answer, where to", x.soon(0, 0, 1), 0);
        due("layers = 63 by a plain one, how many", x.soon(1, 63, 0), NONE);
        due("layers = 63 by a plain one, where to", x.soon(1, 63, 1), NONE);
        due("layers = -1", x.soon(0, -1, 0), OUTSIDE);
        due("layers = 64", x.soon(0, 64, 1), OUTSIDE);
        due("what = -1", x.soon(0, 0, -1), OUTSIDE);
        due("what = 2", x.soon(0, 0, 2), OUTSIDE);
        due("tramp -1", x.soon(-1, 0, 0), UNKNOWN);
        due("tramp 2 of two", x.soon(2, 0, 0), UNKNOWN);
        due("tramp 2, layers = 64", x.soon(2, 64, 0), UNKNOWN);
    }

    @Sentence("BENEATH: how many (what = 0), the first (1); NONE. OUTSIDE.")
    static void p17Beneath() {
        ChalkTramps x = on("KG0ab");
        due("how many", x.beneath(0), 1);
        due("the first", x.beneath(1), 12);
        due("what = -1", x.beneath(-1), OUTSIDE);
        due("what = 2", x.beneath(2), OUTSIDE);
        due("no layers, what = 2", new ChalkTramps().beneath(2), OUTSIDE);
        due("no order, how many", on("KG0abG1ba").beneath(0), 0);
        due("no order, the first", on("KG0abG1ba").beneath(1), NONE);
    }

    @Sentence("JUDGED; NONE. OUTSIDE: n, row (0 or more, 3 n figures at most).")
    static void p18Judge() {
        ChalkTramps x = on("KG2aI20");
        long most = 1000;
        for (int n = 1; n <= 4; n++) {
            due("n = " + n + ", row = 0", x.judge(n, 0), NONE);
            due("n = " + n + ", all figures", x.judge(n, most - 1), 0);
            due("n = " + n + ", a figure more", x.judge(n, most), OUTSIDE);
            due("n = " + n + ", row = -1", x.judge(n, -1), OUTSIDE);
            due("n = " + n + ", the least row", x.judge(n, Long.MIN_VALUE), OUTSIDE);
            due("n = " + n + ", the most", x.judge(n, Long.MAX_VALUE), OUTSIDE);
            most *= 1000;
        }
        due("beyond an int: white by 0, a night, knows a, white by 1", x.judge(4, 500000401501L), NONE);
        due("beyond an int: white by 2", x.judge(4, 500000401502L), 3);
        due("n = 0", x.judge(0, 0), OUTSIDE);
        due("n = -1", x.judge(-1, 0), OUTSIDE);
        due("n = 5", x.judge(5, 0), OUTSIDE);
        due("n = 5, 15 figures", x.judge(5, 100000000000000L), OUTSIDE);
        due("no tramps", new ChalkTramps().judge(1, 300), 0);
    }

    // ---- what one knew

    @Sentence("KNEW: how many there are. OUTSIDE: layer (1 to 6), knew (0, 1); FULL: 6.")
    static void p19Knew() {
        ChalkTramps x = new ChalkTramps();
        due("layer 0", x.knew(0, 1), OUTSIDE);
        due("layer 7", x.knew(7, 1), OUTSIDE);
        due("knew -1", x.knew(1, -1), OUTSIDE);
        due("knew 2", x.knew(1, 2), OUTSIDE);
        due("none of these", x.count(9), 0);
        due("layer 1, knew 0", x.knew(1, 0), 1);
        due("layer 6, knew 1", x.knew(6, 1), 2);
        for (int i = 3; i <= 6; i++) due("the " + i + ".", x.knew(i, 0), i);
        due("the seventh", x.knew(1, 0), FULL);
        due("the seventh, layer 7", x.knew(7, 0), OUTSIDE);
        due("the seventh, knew 2", x.knew(1, 2), OUTSIDE);
        due("six", x.count(9), 6);
        due("layer 1 and layer 6 count, each in a kiln", layAt("KG0aG1f", 1, 0), 10);
        due("layer 6, knew 1", layAt("KG0aG1f", 6, 1), 6);
    }

    private static int layAt(String hill, int layer, int knew) {
        ChalkTramps x = on(hill);
        x.knew(layer, knew);
        return x.lay(0);
    }

    @Sentence("Nothing KNEW: how much there was.")
    static void p20Unknew() {
        ChalkTramps x = on("KG0a");
        due("none", x.unknew(), 0);
        for (int i = 0; i < 6; i++) x.knew(1, i % 2);
        due("knew it and did not", x.lay(0), 0);
        due("six", x.unknew(), 6);
        due("nothing", x.count(9), 0);
        due("all fit again", x.lay(0), 8);
        due("none", x.unknew(), 0);
        due("there is room", x.knew(1, 1), 1);
        due("only this counts", x.lay(0), 6);
    }

    @Sentence("LAY: how many (what = 0), the first (1); NONE. OUTSIDE.")
    static void p21Lay() {
        ChalkTramps x = on("KG0aG1f");
        due("how many", x.lay(0), 16);
        due("the first", x.lay(1), 0);
        due("what = -1", x.lay(-1), OUTSIDE);
        due("what = 2", x.lay(2), OUTSIDE);
        x.knew(2, 1);
        due("none, how many", x.lay(0), 0);
        due("none, the first", x.lay(1), NONE);
        due("no kilns, what = 2", new ChalkTramps().lay(2), OUTSIDE);
    }

    // ---- shares, rests, chances

    @Sentence("SHARE. UNKNOWN.")
    static void p22Share() {
        for (int no : new int[] {LEAST, -1, 4, MOST}) {
            unchanged("share(" + no + ", true)", Checks::busy, x -> x.share(no, true), UNKNOWN);
            unchanged("share(" + no + ", false)", Checks::busy, x -> x.share(no, false), UNKNOWN);
        }
        due("half of four, above", busy().share(0, true), 2);
        due("half of four, below", busy().share(0, false), 1);
        due("of nothing, above", busy().share(3, true), 0);
        due("of nothing, below", busy().share(3, false), 1);
        due("a new object's", new ChalkTramps().share(0, true), UNKNOWN);
    }

    @Sentence("RESTS: how many (what = 0), the first (1); NONE. UNKNOWN: both; OUTSIDE: both are one, what.")
    static void p23Rests() {
        for (int no : new int[] {LEAST, -1, 4, MOST}) {
            unchanged("rests(" + no + ", 0, 0)", Checks::busy, x -> x.rests(no, 0, 0), UNKNOWN);
            unchanged("rests(0, " + no + ", 0)", Checks::busy, x -> x.rests(0, no, 0), UNKNOWN);
            unchanged("rests(" + no + ", " + no + ", 2)", Checks::busy, x -> x.rests(no, no, 2), UNKNOWN);
        }
        for (int tramp = 0; tramp < 4; tramp++) due("both are " + tramp, busy().rests(tramp, tramp, 0), OUTSIDE);
        due("what = -1", busy().rests(0, 1, -1), OUTSIDE);
        due("what = 2", busy().rests(0, 1, 2), OUTSIDE);
        due("how many", busy().rests(0, 3, 0), 4);
        due("the first", busy().rests(0, 3, 1), 1);
        ChalkTramps x = on("KG4bG2dfcI33I21");
        nights(x, 2);
        due("none", x.rests(0, 1, 1), NONE);
    }

    @Sentence("COLD. UNKNOWN; OUTSIDE: m, x.")
    static void p24Cold() {
        ChalkTramps x = on("KG2abcdG3eI22");
        due("m = 0, x = 0", x.cold(0, 0, 0, true), 1);
        due("m = 6, x = 0", x.cold(0, 6, 0, true), 0);
        due("m = 4, x = 10", x.cold(0, 4, 10, true), 0);
        due("m = 4, x = 9, below", x.cold(0, 4, 9, false), 10);
        due("m = -1", x.cold(0, -1, 0, true), OUTSIDE);
        due("m = 7", x.cold(0, 7, 0, true), OUTSIDE);
        due("x = -1", x.cold(0, 0, -1, true), OUTSIDE);
        due("x = 11", x.cold(0, 0, 11, true), OUTSIDE);
        due("tramp -1", x.cold(-1, 0, 0, true), UNKNOWN);
        due("tramp 1 of one", x.cold(1, 0, 0, false), UNKNOWN);
        due("tramp 1, m = 7", x.cold(1, 7, 11, false), UNKNOWN);
        // All of four kilns count: ten thousand ways, of which the last kiln's tenths are left.
        due("the last of four kilns", on(LARGEST).cold(3, 1, 3, true), 7);
    }

    @Sentence("THE SEED is v: what it was.")
    static void p25Seed() {
        ChalkTramps x = new ChalkTramps();
        due("0 at first", x.seed(Long.MIN_VALUE), 0);
        due("the least", x.seed(Long.MAX_VALUE), Long.MIN_VALUE);
        due("the most", x.seed(-1), Long.MAX_VALUE);
        due("-1", x.seed(0), -1);
        due("0", x.seed(1), 0);
        due("beyond an int", seedBack(1L << 40), 1L << 40);
    }

    private static long seedBack(long v) {
        ChalkTramps x = new ChalkTramps();
        x.seed(v);
        return x.seed(0);
    }

    @Sentence("YEARS. OUTSIDE: m.")
    static void p26Years() {
        for (int m : new int[] {LEAST, -1, 0, 31, MOST}) unchanged("years(" + m + ")", Checks::busy, x -> x.years(m), OUTSIDE);
        ChalkTramps x = on("KG2abI22");
        nights(x, 5);
        due("years(1)", x.years(1), 2);
        due("years(30)", x.years(30), 60);
        due("no tramps", new ChalkTramps().years(1), 0);
    }

    // ---- slots

    @Sentence("They are kept: THE NIGHT. UNKNOWN.")
    static void p27Keep() {
        for (int no : new int[] {LEAST, -1, 2, MOST}) unchanged("keep(" + no + ")", Checks::busy, x -> x.keep(no), UNKNOWN);
        ChalkTramps x = on("KG2abI20");
        due("at night 0", x.keep(0), 0);
        nights(x, 2);
        due("at night 2", x.keep(1), 2);
        due("keeping is no act", x.count(8), 2);
        nights(x, 1);
        due("slot 0 is kept", x.again(0), 0);
        due("slot 1 is kept by itself", x.again(1), 2);
        nights(x, 1);
        due("kept anew", x.keep(1), 3);
        nights(x, 1);
        due("the last one is kept", x.again(1), 3);
        due("no tramps", new ChalkTramps().keep(1), 0);
    }

    @Sentence("They are as they were kept: THE NIGHT. UNKNOWN; STATE: none were kept.")
    static void p28Again() {
        for (int no : new int[] {LEAST, -1, 2, MOST}) unchanged("again(" + no + ")", Checks::busy, x -> x.again(no), UNKNOWN);
        unchanged("again(1), none kept", Checks::busy, x -> x.again(1), STATE);
        unchanged("again(0) of a new object", ChalkTramps::new, x -> x.again(0), STATE);
        unchanged("again(1) of a new object", ChalkTramps::new, x -> x.again(1), STATE);
        ChalkTramps x = busy();
        due("the night", x.again(0), 5);
        due("who walked behind it has not", x.tramp(2, 5), 0);
        due("it is back", x.tramp(2, 0), 5);
        due("a hummock is one", x.tramp(0, 6), 1);
        nights(x, 3);
        due("a second time", x.again(0), 5);
        due("the night is as it was kept", x.count(3), 5);
        due("KNEW stays", x.count(9), 2);
        due("THE SEED stays", x.seed(0), 12345);
        due("THE TEXT stays", x.count(0), 24);
        x.undo();
        x.wash(3);
        due("a new row", x.undo(), 0);
        text(x, "KG2abI20");
        x.hill();
        due("behind a new hill none is kept", x.again(0), STATE);
    }

    @Sentence("0 letters of THE TEXT, 1 KILNS, 2 TRAMPS, 3 THE NIGHT, 4 HUMMOCKS (bits), 5 who has WALKED (bits), 6 LAYERS that any TRAMP knows (bits), 7 LAYERS of any KILN (bits), 8 ACTS in the row, 9 KNEW. OUTSIDE.")
    static void p29Count() {
        due("count(-1)", busy().count(-1), OUTSIDE);
        due("count(10)", busy().count(10), OUTSIDE);
        due("count(least)", busy().count(LEAST), OUTSIDE);
        due("count(most)", busy().count(MOST), OUTSIDE);
        for (int what = 0; what <= 9; what++) due("none, count(" + what + ")", new ChalkTramps().count(what), 0);
        int[] some = {24, 2, 4, 5, 1, 4, 15, 63, 7, 2};
        for (int what = 0; what <= 9; what++) due("some, count(" + what + ")", busy().count(what), some[what]);
        ChalkTramps x = on("KG2abcdG3efG4aG5bI22I30I22I23");
        for (int i = 0; i < 30; i++) x.write('Z');
        nights(x, 20);
        for (int i = 0; i < 9; i++) x.knew(1, 0);
        int[] full = {48, 4, 4, 20, 15, 0, 63, 63, 14, 6};
        for (int what = 0; what <= 9; what++) due("full, count(" + what + ")", x.count(what), full[what]);
        ChalkTramps walked = on("KI20I30I40I00");
        for (int tramp = 0; tramp < 4; tramp++) walked.walk(tramp, 1);
        due("all have walked", walked.count(5), 15);
        ChalkTramps apart = on("KG0aG1bG2cG3fI00I10I20I30");
        apart.night();
        due("each knows another layer", apart.count(6), 39);
    }
}
