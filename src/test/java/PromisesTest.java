/** Promise by promise: ordinary inputs, the edges that the document names, wrong inputs. Answers are worked out by hand. */
public final class PromisesTest extends Checks {
    private static void faultOf(String text, int want) {
        ChalkTramps x = new ChalkTramps();
        text(x, text);
        due("fault of '" + text + "'", x.fault(), want);
        String before = seen(x);
        due("hill of '" + text + "'", x.hill() < 0 ? STATE : 0, want == NONE ? 0 : STATE);
        if (want != NONE) due("a refused hill changes nothing", seen(x).equals(before));
    }

    private static void newObject() {
        about("promise 1");
        ChalkTramps x = new ChalkTramps();
        for (int what = 0; what < 10; what++) due("count(" + what + ")", x.count(what), 0);
        due("seed", x.seed(1), 0);
        due("kiln(0, 0)", x.kiln(0, 0), UNKNOWN);
        due("tramp(0, 0)", x.tramp(0, 0), UNKNOWN);
    }

    private static void writing() {
        about("promise 2");
        ChalkTramps x = new ChalkTramps();
        due("write(-1)", x.write(-1), OUTSIDE);
        due("write(256)", x.write(256), OUTSIDE);
        due("write(least)", x.write(LEAST), OUTSIDE);
        due("write(0)", x.write(0), 1);
        due("write(255)", x.write(255), 2);
        for (int i = 3; i <= 48; i++) due("write(75)", x.write(75), i);
        due("write(75) at 48", x.write(75), FULL);
        due("write(256) at 48", x.write(256), OUTSIDE);
        due("count(0)", x.count(0), 48);
        about("promise 3");
        due("wipe()", x.wipe(), 48);
        due("wipe()", x.wipe(), 0);
        due("count(0)", x.count(0), 0);
        due("write(75)", x.write(75), 1);
        due("fault()", x.fault(), NONE);
    }

    private static void faults() {
        about("promise 4");
        faultOf("", 0);
        faultOf("k", 0);
        faultOf("K", NONE);
        faultOf("KK", 1);
        faultOf("KG", 2);
        faultOf("KG5", 3);
        faultOf("KG:", 2);
        faultOf("KG/", 2);
        faultOf("KG5G", 3);
        faultOf("KG5`", 3);
        faultOf("KG5g", 3);
        faultOf("KG5f", NONE);
        faultOf("KG5ff", 4);
        faultOf("KG5fedc", NONE);
        faultOf("KG5fedcb", 7);
        faultOf("KG5fedcG", 8);
        faultOf("KG5aG5", 5);
        faultOf("KG5aG4aI5", 9);
        faultOf("KI", 2);
        faultOf("KIa", 2);
        faultOf("KI0", 3);
        faultOf("KI04", 3);
        faultOf("KI03", NONE);
        faultOf("KI03a", 4);
        faultOf("KI03I03I03I03", NONE);
        faultOf("KI03I03I03I03I", 13);
        faultOf("KG0aG1aG2aG3aG", 13);
        faultOf("KG0aG1aG2aG3aI", 14);
        faultOf("KG0abcdG1abcdG2abcdG3abcdI90I91I92I93", NONE);
        faultOf("KG5aI52G6b", NONE);
        faultOf("X" + "K".repeat(47), 0);
        faultOf("K" + (char) 0, 1);
        faultOf("K" + (char) 255, 1);
    }

    private static void hills() {
        about("promise 5");
        ChalkTramps x = on("KG2abcI20I31");
        due("kilns and tramps", 10 * x.count(1) + x.count(2), 12);
        x.knew(1, 1);
        x.seed(77);
        nights(x, 2);
        x.keep(0);
        x.walk(0, 3);
        text(x, "KG0fG9aI93");
        due("hill()", x.hill(), 21);
        due("the text stays", x.count(0), 10);
        due("acts", x.count(8), 0);
        due("undo()", x.undo(), STATE);
        due("again(0)", x.again(0), STATE);
        due("the night", x.count(3), 0);
        due("walked", x.count(5), 0);
        due("known", x.count(6), 0);
        due("KNEW stays", x.count(9), 1);
        due("the seed stays", x.seed(77), 77);
        due("place", x.tramp(0, 0), 9);
        due("kind", x.tramp(0, 1), 3);
        due("white", x.tramp(0, 3), 0);
        due("tramp 1 is gone", x.tramp(1, 0), UNKNOWN);
        nights(x, 1);
        due("hill() of the same text", x.hill(), 21);
        due("the night", x.count(3), 0);
        due("it knows nothing", x.tramp(0, 2), 0);
        due("it is not white", x.tramp(0, 3), 0);
        text(x, "K");
        due("hill() of K", x.hill(), 0);
        x.write('Z');
        String before = seen(x);
        due("hill() of a fault", x.hill(), STATE);
        due("it changed nothing", seen(x).equals(before));
    }

    private static void looking() {
        ChalkTramps x = on("KG7fbdaG0cI70I33I72");
        about("promise 6");
        due("place", x.kiln(0, 0), 7);
        due("how many", x.kiln(0, 1), 4);
        due("bits", x.kiln(0, 2), 43);
        due("figures", x.kiln(0, 3), 6241);
        due("tramps", x.kiln(0, 4), 5);
        due("tramps", x.kiln(1, 4), 0);
        due("bits", x.kiln(1, 2), 4);
        due("kiln 2", x.kiln(2, 0), UNKNOWN);
        due("kiln 2, what 9", x.kiln(2, 9), UNKNOWN);
        due("kiln -1", x.kiln(-1, 0), UNKNOWN);
        due("what 5", x.kiln(0, 5), OUTSIDE);
        due("what -1", x.kiln(0, -1), OUTSIDE);
        about("promise 7");
        x.night();
        x.walk(2, 6);
        due("place", x.tramp(2, 0), 6);
        due("kind", x.tramp(2, 1), 2);
        due("knows", x.tramp(2, 2), 43);
        due("white", x.tramp(2, 3), 2);
        due("speed", x.tramp(2, 4), 3);
        due("walked", x.tramp(2, 5), 1);
        due("no hummock", x.tramp(2, 6), 0);
        due("not walked", x.tramp(0, 5), 0);
        due("tramp 3", x.tramp(3, 0), UNKNOWN);
        due("tramp -1, what 9", x.tramp(-1, 9), UNKNOWN);
        due("what 7", x.tramp(0, 7), OUTSIDE);
        due("what -1", x.tramp(0, -1), OUTSIDE);
        int[] speeds = {3, 3, 3, 2, 2, 2, 1, 1, 1};
        for (int white = 1; white < 9; white++) {
            due("white", x.tramp(0, 3), white);
            due("speed, white by " + white, x.tramp(0, 4), speeds[white]);
            x.night();
        }
        x.night();
        due("white by 9 at most", x.tramp(0, 3), 9);
        due("speed of a hummock", x.tramp(0, 4), 0);
        due("a hummock", x.tramp(0, 6), 1);
        about("promise 8");
        due("at(7)", x.at(7), 0);
        due("at(0)", x.at(0), 1);
        due("at(1)", x.at(1), NONE);
        due("at(9)", x.at(9), NONE);
        due("at(10)", x.at(10), UNKNOWN);
        due("at(-1)", x.at(-1), UNKNOWN);
    }

    private static void nightsPassed() {
        about("promise 9");
        ChalkTramps x = on("KG2fabcI20I21I22I23");
        due("night()", x.night(), 0);
        due("plain", x.tramp(0, 2), 32);
        due("quick", x.tramp(1, 2), 33);
        due("chalky", x.tramp(2, 2), 39);
        due("a teller knows what those beside it know", x.tramp(3, 2), 39);
        due("plain is white", x.tramp(0, 3), 1);
        due("quick is white", x.tramp(1, 3), 1);
        due("chalky is white", x.tramp(2, 3), 2);
        due("teller is white", x.tramp(3, 3), 1);
        nights(x, 1);
        due("plain", x.tramp(0, 2), 33);
        due("quick", x.tramp(1, 2), 39);
        nights(x, 2);
        due("plain, all", x.tramp(0, 2), 39);
        due("it is whiter, too, when there is nothing to take", x.tramp(2, 3), 8);
        due("the fifth night: chalky ones", x.night(), 1);
        due("9 at most", x.tramp(2, 3), 9);
        nights(x, 3);
        due("the ninth: all", x.night(), 4);
        due("the tenth", x.night(), 4);
        due("the night", x.count(3), 10);

        ChalkTramps y = on("KG2abI20I90I33I23");
        due("night()", y.night(), 0);
        due("no kiln, nothing", y.tramp(1, 2), 0);
        due("no kiln, no white", y.tramp(1, 3), 0);
        due("a teller away from others", y.tramp(2, 2), 0);
        y.walk(2, 2);
        due("walked", y.count(5), 4);
        y.night();
        due("nobody has walked", y.count(5), 0);
        due("it takes one and hears the rest", y.tramp(2, 2), 3);
        due("white by one night there", y.tramp(2, 3), 1);

        ChalkTramps z = on("KG2aG5bI20I23I53");
        nights(z, 8);
        due("white by 8", z.tramp(1, 3), 8);
        z.wash(0);
        z.walk(2, 4);
        z.night();
        z.walk(2, 3);
        z.night();
        z.walk(2, 2);
        due("a hummock by the ninth", z.tramp(1, 6), 1);
        due("two is at 2", z.tramp(2, 0), 2);
        due("hummock takes nothing more", z.tramp(1, 2), 1);
        z.night();
        due("hummocks tell, too", z.tramp(2, 2), 3);
        due("a hummock hears nothing", z.tramp(1, 2), 1);

        due("new object's night", new ChalkTramps().night(), 0);
    }

    /** A teller that becomes a hummock when it lies up hears nothing more in that night. */
    private static void lastNightOfTeller() {
        about("promise 9");
        ChalkTramps x = on("KG2aG5bcdeI23I52");
        nights(x, 4);
        x.wash(1);
        nights(x, 1);
        x.walk(1, 3);
        nights(x, 3);
        x.walk(1, 2);
        due("white by 8", x.tramp(0, 3), 8);
        due("the other one knows more", x.tramp(1, 2), 30);
        x.night();
        due("it is a hummock", x.tramp(0, 6), 1);
        due("it did not hear", x.tramp(0, 2), 1);
        due("the other one took", x.tramp(1, 2), 31);
    }

    private static void walking() {
        about("promise 10");
        ChalkTramps x = on("KG2abcdI50I20I21I90");
        due("too far", x.walk(0, 1), STATE);
        due("is there", x.walk(0, 5), STATE);
        due("no tramp", x.walk(4, 1), UNKNOWN);
        due("no tramp", x.walk(-1, 1), UNKNOWN);
        due("no place", x.walk(0, 10), UNKNOWN);
        due("no place", x.walk(0, -1), UNKNOWN);
        due("no place", x.walk(0, LEAST), UNKNOWN);
        due("no act", x.count(8), 0);
        due("three back", x.walk(0, 2), 3);
        due("has walked", x.walk(0, 3), STATE);
        due("one act", x.count(8), 1);
        due("9 to 6", x.walk(3, 6), 3);
        nights(x, 2);
        due("walks again", x.walk(3, 9), 3);
        nights(x, 1);
        due("white by 3: speed 2", x.walk(1, 5), STATE);
        due("two", x.walk(1, 4), 2);
        nights(x, 3);
        due("white by 6: speed 1", x.walk(2, 4), STATE);
        due("one", x.walk(2, 1), 1);
        nights(x, 3);
        due("a hummock", x.tramp(0, 6), 1);
        due("a hummock never walks", x.walk(0, 3), STATE);
    }

    private static void telling() {
        about("promise 11");
        ChalkTramps x = on("KG2abcdI22I21I20I30");
        x.night();
        due("chalky to plain", x.tell(0, 2), 4);
        due("plain to chalky", x.tell(2, 0), 4);
        due("the one's own stays", x.tramp(0, 2), 15);
        due("not at one place", x.tell(0, 3), STATE);
        due("both are one", x.tell(3, 3), OUTSIDE);
        due("no such", x.tell(0, 4), UNKNOWN);
        due("no such", x.tell(-1, 0), UNKNOWN);
        due("both one and no such", x.tell(5, 5), UNKNOWN);
        due("acts", x.count(8), 3);
        nights(x, 4);
        due("a hummock hears nothing", x.tell(1, 0), STATE);
        x.wash(1);
        due("a hummock can tell", x.tell(0, 1), 4);
        x.wash(1);
        due("as well as what it knew", x.tell(1, 2), 4);
    }

    private static void washing() {
        about("promise 12");
        ChalkTramps x = on("KG2abcdI22I31");
        x.night();
        x.walk(0, 3);
        due("wash(0)", x.wash(0), 4);
        due("knows", x.tramp(0, 2), 0);
        due("white", x.tramp(0, 3), 0);
        due("has walked still", x.tramp(0, 5), 1);
        due("is where it was", x.tramp(0, 0), 3);
        due("wash(0) again", x.wash(0), 0);
        due("that is an act", x.count(8), 4);
        due("no such", x.wash(2), UNKNOWN);
        due("no such", x.wash(-1), UNKNOWN);
        x.night();
        x.walk(0, 2);
        nights(x, 5);
        due("a hummock", x.wash(0), STATE);
    }

    private static void undoing() {
        about("promise 13");
        ChalkTramps x = on("KG2abcdI22I51");
        due("none", x.undo(), STATE);
        x.walk(1, 2);
        x.night();
        x.tell(0, 1);
        x.wash(0);
        due("undo a bath", x.undo(), 3);
        due("knows", x.tramp(0, 2), 15);
        due("white", x.tramp(0, 3), 2);
        due("undo a telling", x.undo(), 2);
        due("knows", x.tramp(1, 2), 3);
        due("undo a night", x.undo(), 1);
        due("the night", x.count(3), 0);
        due("known", x.count(6), 0);
        due("white", x.tramp(0, 3), 0);
        due("has walked again", x.count(5), 2);
        due("undo a walk", x.undo(), 0);
        due("place", x.tramp(1, 0), 5);
        due("walked", x.count(5), 0);
        due("none", x.undo(), STATE);
        nights(x, 14);
        due("14 acts", x.count(8), 14);
        nights(x, 3);
        due("14 acts at most", x.count(8), 14);
        for (int left = 13; left >= 0; left--) due("undo", x.undo(), left);
        due("the first three are forgotten", x.count(3), 3);
        due("white as it was then", x.tramp(0, 3), 6);
        due("none", x.undo(), STATE);
    }

    private static void nightsToCome() {
        about("promise 14");
        ChalkTramps x = on("KG2abcdG8eI20I53I82");
        String before = seen(x);
        due("in 0 nights", x.later(0, 0, 0), 0);
        due("in 2 nights", x.later(0, 2, 0), 3);
        due("in 20 nights", x.later(0, 20, 0), 15);
        due("white in 8", x.later(0, 8, 1), 8);
        due("white in 20", x.later(0, 20, 1), 9);
        due("chalky in 2", x.later(2, 2, 1), 4);
        due("no kiln", x.later(1, 20, 0), 0);
        due("no such", x.later(3, 0, 0), UNKNOWN);
        due("no such, n", x.later(3, 21, 0), UNKNOWN);
        due("n 21", x.later(0, 21, 0), OUTSIDE);
        due("n -1", x.later(0, -1, 0), OUTSIDE);
        due("what 2", x.later(0, 0, 2), OUTSIDE);
        due("what -1", x.later(0, 0, -1), OUTSIDE);
        about("promise 15");
        due("plain", x.hummock(0), 9);
        due("no kiln", x.hummock(1), NONE);
        due("chalky", x.hummock(2), 5);
        due("no such", x.hummock(3), UNKNOWN);
        due("no such", x.hummock(-1), UNKNOWN);
        due("nothing changed", seen(x).equals(before));
        nights(x, 9);
        due("it is one", x.hummock(0), 0);
    }

    private static void fewestNights() {
        about("promise 16");
        ChalkTramps x = on("KG1abG4cI20I52I93");
        String before = seen(x);
        due("nothing", x.soon(0, 0, 0), 0);
        due("nothing, where to", x.soon(0, 0, 1), 0);
        due("a", x.soon(0, 1, 0), 1);
        due("a, where to", x.soon(0, 1, 1), 1);
        due("a, b", x.soon(0, 3, 1), 11);
        due("a, c: first 1, then 4", x.soon(0, 5, 1), 14);
        due("a, b, c", x.soon(0, 7, 0), 3);
        due("a, b, c: 1, 1, 4", x.soon(0, 7, 1), 114);
        due("chalky from 5: 4, 1", x.soon(1, 7, 1), 41);
        due("chalky: a, b alone: 2, 1 (or 3, 1, or 4, 1)", x.soon(1, 3, 1), 21);
        due("from 9 a, b, c: 6 or 7, 4, 1, 1", x.soon(2, 7, 0), 4);
        due("of like ones the least", x.soon(2, 7, 1), 6411);
        due("d is nowhere", x.soon(0, 8, 0), NONE);
        due("d is nowhere", x.soon(0, 8, 1), NONE);
        due("no such", x.soon(3, 0, 0), UNKNOWN);
        due("no such, layers", x.soon(-1, 64, 5), UNKNOWN);
        due("layers 64", x.soon(0, 64, 0), OUTSIDE);
        due("layers -1", x.soon(0, -1, 0), OUTSIDE);
        due("what 2", x.soon(0, 0, 2), OUTSIDE);
        due("nothing changed", seen(x).equals(before));
        x.walk(0, 3);
        due("has walked: it stays in the first night", x.soon(0, 1, 1), 31);
        due("a figure 0 in front", on("KG0aG2bI20").soon(0, 3, 1), 2);
        ChalkTramps y = on("KG2aI20");
        nights(y, 9);
        due("a hummock knows what it knows", y.soon(0, 1, 0), 0);
        due("four nights will do", on("KG9aG8bI00").soon(0, 3, 0), 4);
        due("four nights will do", on("KG9abI00").soon(0, 3, 0), 4);
        due("five nights are too many", on("KG9abcI00").soon(0, 7, 0), NONE);
        due("a teller goes where another lies", on("KG5abcdI22I52I23").soon(2, 15, 1), 5);
    }

    private static void land() {
        about("promise 17");
        due("no layers", on("KI20").beneath(0), 1);
        due("no layers", on("KI20").beneath(1), 0);
        due("one order", on("KG0fa").beneath(0), 1);
        due("one order", on("KG0fa").beneath(1), 61);
        ChalkTramps x = on("KG0faG1bG2ca");
        due("orders", x.beneath(0), 8);
        due("the first", x.beneath(1), 2361);
        ChalkTramps y = on("KG0abG1bcG2ca");
        due("round and round", y.beneath(0), 0);
        due("round and round", y.beneath(1), NONE);
        due("all free", on("KG0aG1bG2cG3d").beneath(0), 24);
        due("others between them", on("KG0afG1abcf").beneath(1), 1236);
        due("six layers", on("KG0fedcG1cba").beneath(1), 654321);
        due("what 2", x.beneath(2), OUTSIDE);
        due("what -1", x.beneath(-1), OUTSIDE);
    }

    private static void judging() {
        about("promise 18");
        ChalkTramps x = on("KG2abcI20I51I23");
        String before = seen(x);
        due("a night", x.judge(1, 0), NONE);
        due("four nights", x.judge(4, 0), NONE);
        due("0, 0, 1", x.judge(1, 1), 0);
        due("0, 1, 0", x.judge(1, 10), 0);
        due("it walked", x.judge(1, 112), NONE);
        due("it walked twice", x.judge(2, 112113), 1);
        due("a night between", x.judge(3, 112000113), NONE);
        due("it is there", x.judge(1, 102), 0);
        due("no such walks", x.judge(1, 132), 0);
        due("told", x.judge(1, 202), NONE);
        due("told, both one", x.judge(1, 200), 0);
        due("told, not at one place", x.judge(1, 201), 0);
        due("told, no such", x.judge(1, 203), 0);
        due("told, no such", x.judge(1, 230), 0);
        due("washed", x.judge(1, 302), NONE);
        due("washed, no 0", x.judge(1, 312), 0);
        due("washed, no such", x.judge(1, 303), 0);
        due("knows not", x.judge(1, 401), 0);
        due("knows by a night", x.judge(2, 401), NONE);
        due("knows not by a night", x.judge(2, 402), 1);
        due("layer 0", x.judge(2, 400), 1);
        due("layer 7", x.judge(2, 407), 1);
        due("knows, no such", x.judge(2, 431), 1);
        due("white by 0", x.judge(1, 500), NONE);
        due("white by 1", x.judge(1, 501), 0);
        due("white by 1 in a night", x.judge(2, 501), NONE);
        due("white, no such", x.judge(1, 530), 0);
        due("6, 0, 0", x.judge(1, 600), 0);
        due("9, 9, 9", x.judge(4, 999999999999L), 0);
        due("walks, a night, told, knows", x.judge(4, 112000201412L), NONE);
        due("what is told is not unlearned, nor learned by telling", x.judge(4, 112000201402L), 3);
        due("a bath forgets", x.judge(4, 401300401L), 3);
        due("nothing changed", seen(x).equals(before));
        due("n 0", x.judge(0, 0), OUTSIDE);
        due("n 5", x.judge(5, 0), OUTSIDE);
        due("n least", x.judge(LEAST, 0), OUTSIDE);
        due("n most", x.judge(MOST, 0), OUTSIDE);
        due("row -1", x.judge(1, -1), OUTSIDE);
        due("row 1000", x.judge(1, 1000), OUTSIDE);
        due("row of 7", x.judge(2, 1000000), OUTSIDE);
        due("row of 13", x.judge(4, 1000000000000L), OUTSIDE);
        due("row most", x.judge(4, Long.MAX_VALUE), OUTSIDE);
        nights(x, 9);
        due("a hummock is not washed", x.judge(1, 300), 0);
        due("white by 9", x.judge(1, 509), NONE);
        due("a hummock does not hear", x.judge(1, 202), 0);
    }

    private static void stranger() {
        about("promise 19");
        ChalkTramps x = on("KG3abcdG5ba");
        due("layer 0", x.knew(0, 1), OUTSIDE);
        due("layer 7", x.knew(7, 1), OUTSIDE);
        due("knew 2", x.knew(1, 2), OUTSIDE);
        due("knew -1", x.knew(1, -1), OUTSIDE);
        about("promise 21");
        due("8 for each", x.lay(0), 16);
        due("the first: plain, kiln 0, no night", x.lay(1), 0);
        due("what 2", x.lay(2), OUTSIDE);
        due("what -1", x.lay(-1), OUTSIDE);
        due("knew(2, 1)", x.knew(2, 1), 1);
        due("plain 2, 3; 11, 12, 13; quick 101, 102, 103; 111, 112, 113", x.lay(0), 11);
        due("the first", x.lay(1), 2);
        due("knew(1, 0)", x.knew(1, 0), 2);
        due("plain at 1, one night", x.lay(0), 1);
        due("11", x.lay(1), 11);
        due("knew(1, 1), too", x.knew(1, 1), 3);
        due("never", x.lay(0), 0);
        due("never", x.lay(1), NONE);
        about("promise 20");
        due("unknew()", x.unknew(), 3);
        due("unknew()", x.unknew(), 0);
        due("8 for each", x.lay(0), 16);
        about("promise 21");
        x.knew(4, 1);
        due("quick 102, 103: plain ones know three at most", x.lay(0), 2);
        due("102", x.lay(1), 102);
        x.knew(3, 1);
        due("102", x.lay(1), 102);
        about("promise 19");
        for (int i = 3; i <= 6; i++) due("knew(3, 1)", x.knew(3, 1), i);
        due("the seventh", x.knew(3, 1), FULL);
        due("the seventh, layer 9", x.knew(9, 1), OUTSIDE);
        due("count(9)", x.count(9), 6);
        about("promise 21");
        due("no kilns", new ChalkTramps().lay(0), 0);
        due("no kilns", new ChalkTramps().lay(1), NONE);
    }

    private static void shares() {
        about("promise 22");
        ChalkTramps x = on("KG2abcdI20I21I22I90");
        due("nothing known, above", x.share(0, true), 0);
        due("nothing known, below", x.share(0, false), 1);
        x.night();
        due("a among three: 1/3", x.share(0, true), 1);
        due("below", x.share(0, false), 3);
        due("1/3 + 1/2 = 5/6", x.share(1, true), 5);
        due("below", x.share(1, false), 6);
        due("1/3 + 1/2 + 2 = 17/6", x.share(2, true), 17);
        due("below", x.share(2, false), 6);
        due("knows nothing", x.share(3, true), 0);
        due("below", x.share(3, false), 1);
        due("no such, above", x.share(4, true), UNKNOWN);
        due("no such, below", x.share(-1, false), UNKNOWN);
        ChalkTramps y = on("KG2abI22I22I22I22");
        y.night();
        due("2/4", y.share(0, true), 1);
        due("2/4", y.share(3, false), 2);
    }

    private static void resting() {
        about("promise 23");
        // Plain at 2 and quick at 3: the one gets 2 wherever it is, the other 4 at kiln 0 or 2 at kiln 1; 3 less together.
        ChalkTramps x = on("KG2abG4cI20I31");
        String before = seen(x);
        // One: number 0 stays at 2 (2), 1 goes to 4 (2), 2 and 3 stay at 2. Other: 0 goes to 2 (4), 1 goes to 4 (2), 2, 3 stay (0).
        // (0, .): other best is 1 (2 against 4 - 3 = 1 and 0); one at 2: 2 against 2 - 3. At rest: (0, 1), (2, 1), (3, 1).
        // (1, .): other best is 0 (4 against 2 - 3 and 0); one at 4: 2 against 2 - 3. At rest: (1, 0).
        due("pairs", x.rests(0, 1, 0), 4);
        due("the first", x.rests(0, 1, 1), 1);
        due("the other way round", x.rests(1, 0, 0), 4);
        due("the first", x.rests(1, 0, 1), 1);
        due("no kilns: all pairs", on("KI20I30").rests(0, 1, 0), 16);
        due("no kilns: the first", on("KI20I30").rests(0, 1, 1), 0);
        due("both are one", x.rests(1, 1, 0), OUTSIDE);
        due("what 2", x.rests(0, 1, 2), OUTSIDE);
        due("what -1", x.rests(0, 1, -1), OUTSIDE);
        due("no such", x.rests(0, 2, 0), UNKNOWN);
        due("no such", x.rests(-1, 0, 0), UNKNOWN);
        due("no such, both one", x.rests(2, 2, 9), UNKNOWN);
        due("nothing changed", seen(x).equals(before));
        // The teller is better off beside the quick one, who knows three, and the quick one away from the teller.
        ChalkTramps y = on("KG4bG2dfcI33I21");
        due("at first there are some", y.rests(0, 1, 1) >= 0 ? 1 : 0, 1);
        nights(y, 2);
        due("never at rest", y.rests(0, 1, 0), 0);
        due("never at rest", y.rests(0, 1, 1), NONE);
    }

    private static void chances() {
        about("promise 24");
        ChalkTramps x = on("KG2abG5cI21I23I50");
        String before = seen(x);
        due("2 or more, 3 of 10 cold: 7/10", x.cold(0, 2, 3, true), 7);
        due("below", x.cold(0, 2, 3, false), 10);
        due("5 of 10: 1/2", x.cold(0, 1, 5, true), 1);
        due("below", x.cold(0, 1, 5, false), 2);
        due("0 or more: 1", x.cold(0, 0, 5, true), 1);
        due("below", x.cold(0, 0, 5, false), 1);
        due("3 or more: 0", x.cold(0, 3, 5, true), 0);
        due("below", x.cold(0, 3, 5, false), 1);
        due("all cold", x.cold(0, 1, 10, true), 0);
        due("none cold", x.cold(0, 2, 0, true), 1);
        due("none cold, below", x.cold(0, 2, 0, false), 1);
        due("the teller hears", x.cold(1, 2, 4, true), 3);
        due("the teller hears, below", x.cold(1, 2, 4, false), 5);
        due("no such, above", x.cold(3, 0, 0, true), UNKNOWN);
        due("no such, below", x.cold(-1, 9, 0, false), UNKNOWN);
        due("m 7", x.cold(0, 7, 0, true), OUTSIDE);
        due("m -1", x.cold(0, -1, 0, false), OUTSIDE);
        due("x 11", x.cold(0, 0, 11, true), OUTSIDE);
        due("x -1", x.cold(0, 0, -1, true), OUTSIDE);
        due("nothing changed", seen(x).equals(before));
        due("no kilns", on("KI20").cold(0, 0, 3, true), 1);
        due("no kilns", on("KI20").cold(0, 1, 3, false), 1);
    }

    private static void seeds() {
        about("promise 25");
        ChalkTramps x = on("KG2abcdI22");
        due("0 at first", x.seed(Long.MIN_VALUE), 0);
        due("what it was", x.seed(Long.MAX_VALUE), Long.MIN_VALUE);
        due("what it was", x.seed(0), Long.MAX_VALUE);
        about("promise 26");
        due("m 0", x.years(0), OUTSIDE);
        due("m 31", x.years(31), OUTSIDE);
        due("m -1", x.years(-1), OUTSIDE);
        due("the seed stays", x.seed(0), 0);
        String camp = seen(x);
        x.years(30);
        long after = x.seed(0);
        due("nothing changes but the seed", seen(x).equals(camp));
        long by = 0;
        for (int i = 0; i < 30; i++) by = by * 6364136223846793005L + 1442695040888963407L;
        due("the seed goes on", after, by);
        // A seed whose next is 0 draws 0: tramp 0 to place 0, which it may. One whose next has 48 to 63 draws a night.
        due("a walk: nothing known", oneYear(x, 0L), 0);
        due("a night: four", oneYear(x, 48L), 4);
        due("a night: four", oneYear(x, 63L), 4);
        due("a bath", oneYear(x, 40L), 0);
        x.night();
        due("a bath", oneYear(x, 40L), 0);
        due("a bath of another", oneYear(x, 41L), 4);
        due("a walk", oneYear(x, 5L), 4);
        ChalkTramps y = on("KG2abcdI20I20I20I22");
        y.night();
        due("3 tells 0", oneYear(y, 47L), 10);
        due("2 tells 3", oneYear(y, 46L), 7);
        due("upper 31 bits", oneYear(y, 64L + 47L), 10);
        ChalkTramps z = on("KG2abcdI22I22I21I20");
        z.night();
        z.wash(1);
        due("3 is too far from 9", oneYear(z, 39L), 7);
        due("0 is washed", oneYear(z, 40L), 3);
        due("3 is washed", oneYear(z, 43L), 6);
        due("0 tells 1", oneYear(z, 44L), 11);
        due("1 tells 2", oneYear(z, 45L), 7);
        due("2 tells 3", oneYear(z, 46L), 8);
        z.tell(0, 1);
        due("1 tells 2", oneYear(z, 45L), 13);
        due("a night: 4, 4, 4, 2", oneYear(z, 48L), 14);
    }

    /** years(1) with the seed by which the upper 31 bits become drawn. */
    private static int oneYear(ChalkTramps x, long drawn) {
        long inverse = 1L;
        for (int i = 0; i < 6; i++) inverse *= 2 - 6364136223846793005L * inverse;
        x.seed(((drawn << 33) - 1442695040888963407L) * inverse);
        return x.years(1);
    }

    private static void keeping() {
        about("promise 27");
        ChalkTramps x = on("KG2abcdI22I51");
        due("keep(0)", x.keep(0), 0);
        due("keep(2)", x.keep(2), UNKNOWN);
        due("keep(-1)", x.keep(-1), UNKNOWN);
        nights(x, 2);
        x.walk(1, 4);
        due("keep(1)", x.keep(1), 2);
        due("the row stays", x.count(8), 3);
        nights(x, 1);
        x.wash(0);
        about("promise 28");
        due("again(2)", x.again(2), UNKNOWN);
        due("again(-1)", x.again(-1), UNKNOWN);
        due("again(1)", x.again(1), 2);
        due("the row is empty", x.count(8), 0);
        due("undo()", x.undo(), STATE);
        due("place", x.tramp(1, 0), 4);
        due("walked", x.count(5), 2);
        due("knows", x.tramp(0, 2), 15);
        due("white", x.tramp(0, 3), 4);
        due("the night", x.count(3), 2);
        nights(x, 3);
        due("again(0)", x.again(0), 0);
        due("knows", x.tramp(0, 2), 0);
        due("place", x.tramp(1, 0), 5);
        due("again(1) once more", x.again(1), 2);
        due("kept anew", x.keep(0), 2);
        due("again(0)", x.again(0), 2);
        due("none were kept", on("KI20").again(0), STATE);
        ChalkTramps y = on("KG2aI20");
        y.night();
        due("a refused again", y.again(0), STATE);
        due("changes nothing", y.count(8), 1);
    }

    private static void counting() {
        about("promise 29");
        ChalkTramps x = on("KG2abcdG7fI22I50I20");
        nights(x, 5);
        x.walk(1, 4);
        x.knew(1, 1);
        int[] all = {19, 2, 3, 5, 1, 2, 15, 47, 6, 1};
        for (int what = 0; what < 10; what++) due("count(" + what + ")", x.count(what), all[what]);
        due("count(10)", x.count(10), OUTSIDE);
        due("count(-1)", x.count(-1), OUTSIDE);
        due("count(least)", x.count(LEAST), OUTSIDE);
    }

    public static void main(String[] args) {
        newObject();
        writing();
        faults();
        hills();
        looking();
        nightsPassed();
        lastNightOfTeller();
        walking();
        telling();
        washing();
        undoing();
        nightsToCome();
        fewestNights();
        land();
        judging();
        stranger();
        shares();
        resting();
        chances();
        seeds();
        keeping();
        counting();
        end();
    }
}
