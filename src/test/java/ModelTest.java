import java.util.ArrayDeque;
import java.util.Deque;
import java.util.Random;

/** Random runs of calls, each answered by the class and by the model alike; after each call all that can be seen is looked at. */
public final class ModelTest {
    private static final int RUNS = 900;
    private static final int CALLS = 60;
    private static int wrong = 0;

    private final Random random;
    private final int run;
    private final ChalkTramps real = new ChalkTramps();
    private final Model model = new Model();
    private final Deque<String> told = new ArrayDeque<>();

    private ModelTest(int run) {
        this.run = run;
        this.random = new Random(7919L * run + 13);
    }

    private void same(String call, long got, long want) {
        told.addLast(call + " = " + want);
        if (told.size() > 400) told.removeFirst();
        if (got != want && wrong++ < 5) {
            System.out.println("run " + run + ": answered " + got + " at the end of " + told);
        }
    }

    private void look(String call, long got, long want) {
        if (got != want && wrong++ < 5) {
            System.out.println("run " + run + ": then " + call + " answered " + got + ", due is " + want + ", after " + told);
        }
    }

    /** Mostly 0 to below, now and then something else. */
    private int number(int below) {
        int die = random.nextInt(40);
        if (die == 0) return below;
        if (die == 1) return -1;
        if (die == 2) return random.nextBoolean() ? Integer.MIN_VALUE : Integer.MAX_VALUE;
        return random.nextInt(below);
    }

    private String somePart() {
        int place = random.nextInt(random.nextInt(3) == 0 ? 10 : 5);
        if (random.nextBoolean()) return "I" + place + random.nextInt(4);
        StringBuilder part = new StringBuilder("G").append(place);
        int layers = 1 + random.nextInt(4);
        for (int i = 0; i < layers; i++) {
            char layer = (char) ('a' + random.nextInt(6));
            if (part.indexOf(String.valueOf(layer)) < 0) part.append(layer);
        }
        return part.toString();
    }

    private void write(int letter) {
        same("write(" + letter + ")", real.write(letter), model.write(letter));
    }

    private void newText() {
        same("wipe()", real.wipe(), model.wipe());
        StringBuilder text = new StringBuilder("K");
        int parts = random.nextInt(9);
        for (int i = 0; i < parts; i++) text.append(somePart());
        if (random.nextInt(4) == 0) {
            int place = random.nextInt(text.length());
            String signs = "KGI0123456789abcdefghJ";
            text.setCharAt(place, signs.charAt(random.nextInt(signs.length())));
        }
        if (random.nextInt(4) == 0) text.setLength(random.nextInt(text.length() + 1));
        for (int i = 0; i < text.length(); i++) write(text.charAt(i));
        same("fault()", real.fault(), model.fault());
    }

    private void call() {
        int a = number(4);
        int b = number(4);
        int what = number(2);
        boolean upper = random.nextBoolean();
        switch (random.nextInt(27)) {
            case 0:
                if (random.nextInt(3) == 0) {
                    newText();
                    same("hill()", real.hill(), model.hill());
                } else {
                    write(random.nextInt(300) - 20);
                    same("fault()", real.fault(), model.fault());
                }
                break;
            case 1: case 2: case 3: case 4: case 5:
                same("night()", real.night(), model.night());
                break;
            case 6: case 7: case 8: case 9:
                int place = number(10);
                same("walk(" + a + ", " + place + ")", real.walk(a, place), model.walk(a, place));
                break;
            case 10:
                same("tell(" + a + ", " + b + ")", real.tell(a, b), model.tell(a, b));
                break;
            case 11:
                same("wash(" + a + ")", real.wash(a), model.wash(a));
                break;
            case 12:
                same("undo()", real.undo(), model.undo());
                break;
            case 13:
                int n = number(21);
                same("later(" + a + ", " + n + ", " + what + ")", real.later(a, n, what), model.later(a, n, what));
                break;
            case 14:
                same("hummock(" + a + ")", real.hummock(a), model.hummock(a));
                break;
            case 15:
                int layers = number(64);
                if (random.nextBoolean()) layers &= random.nextInt(64) & random.nextInt(64);
                same("soon(" + a + ", " + layers + ", " + what + ")", real.soon(a, layers, what), model.soon(a, layers, what));
                break;
            case 16:
                same("beneath(" + what + ")", real.beneath(what), model.beneath(what));
                break;
            case 17: case 18:
                judge();
                break;
            case 19:
                int layer = 1 + number(6);
                same("knew(" + layer + ", " + what + ")", real.knew(layer, what), model.knew(layer, what));
                break;
            case 20:
                if (random.nextInt(3) == 0) same("unknew()", real.unknew(), model.unknew());
                same("lay(" + what + ")", real.lay(what), model.lay(what));
                break;
            case 21:
                same("share(" + a + ", " + upper + ")", real.share(a, upper), model.share(a, upper));
                break;
            case 22:
                same("rests(" + a + ", " + b + ", " + what + ")", real.rests(a, b, what), model.rests(a, b, what));
                break;
            case 23:
                int m = number(7);
                int x = number(11);
                same("cold(" + a + ", " + m + ", " + x + ", " + upper + ")", real.cold(a, m, x, upper), model.cold(a, m, x, upper));
                break;
            case 24:
                long v = random.nextLong();
                same("seed(" + v + ")", real.seed(v), model.seed(v));
                break;
            case 25:
                int years = 1 + number(30);
                same("years(" + years + ")", real.years(years), model.years(years));
                break;
            default:
                int slot = number(2);
                if (random.nextBoolean()) same("keep(" + slot + ")", real.keep(slot), model.keep(slot));
                else same("again(" + slot + ")", real.again(slot), model.again(slot));
                break;
        }
    }

    private void judge() {
        int n = 1 + number(4);
        long row = 0;
        for (int i = 0; i < 4 && i < n; i++) {
            int doing = random.nextInt(6);
            int second = doing == 0 || doing == 3 ? 0 : random.nextInt(4);
            int third = doing == 0 ? 0 : doing == 2 || doing == 3 ? random.nextInt(4) : doing == 5 ? random.nextInt(4) : random.nextInt(10);
            row = 1000 * row + 100 * doing + 10 * second + third;
            if (random.nextInt(20) == 0) row += random.nextInt(1000);
        }
        if (random.nextInt(30) == 0) row = random.nextBoolean() ? -row - 1 : row * 10;
        same("judge(" + n + ", " + row + ")", real.judge(n, row), model.judge(n, row));
    }

    private void lookAtAll() {
        for (int what = -1; what <= 10; what++) look("count(" + what + ")", real.count(what), model.count(what));
        for (int one = -1; one <= 4; one++) {
            for (int what = -1; what <= 7; what++) {
                look("kiln(" + one + ", " + what + ")", real.kiln(one, what), model.kiln(one, what));
                look("tramp(" + one + ", " + what + ")", real.tramp(one, what), model.tramp(one, what));
            }
        }
        for (int place = -1; place <= 10; place++) look("at(" + place + ")", real.at(place), model.at(place));
    }

    private void go() {
        newText();
        same("hill()", real.hill(), model.hill());
        for (int i = 0; i < CALLS && wrong == 0; i++) {
            call();
            lookAtAll();
        }
    }

    public static void main(String[] args) {
        int runs = args.length > 0 ? Integer.parseInt(args[0]) : RUNS;
        for (int run = 0; run < runs && wrong == 0; run++) new ModelTest(run).go();
        System.out.println(wrong == 0 ? "class and model answer alike" : wrong + " answers differ");
        if (wrong != 0) System.exit(1);
    }
}
