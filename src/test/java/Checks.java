import java.io.IOException;
import java.lang.reflect.InvocationTargetException;
import java.lang.reflect.Method;
import java.nio.file.Files;
import java.nio.file.Path;
import java.util.function.Supplier;
import java.util.function.ToLongFunction;

/** What the tests by hand have in common: rows of what is due, objects made by a text, tests that stand below a sentence. */
abstract class Checks {
    static final int UNKNOWN = -1, OUTSIDE = -2, STATE = -3, FULL = -4, NONE = -9;
    static final int LEAST = Integer.MIN_VALUE, MOST = Integer.MAX_VALUE;
    /** As many letters as a hill can have: 37. */
    static final String LARGEST = "KG0abcdG1bcdeG8cdefG9defaI02I13I81I90";
    private static final Path DOCUMENT = Path.of("../shared/DOC.md");
    private static String heading = "";
    private static int rows = 0;
    private static int wrong = 0;

    /** What the rows that follow are about. */
    static void about(String what) {
        heading = what;
    }

    static void due(String what, long got, long want) {
        rows++;
        if (got != want) wrong(what + " answered " + got + ", due is " + want);
    }

    static void due(String what, boolean got) {
        rows++;
        if (!got) wrong(what + ": is not so");
    }

    private static void wrong(String what) {
        wrong++;
        System.out.println(heading + ": " + what);
    }

    /** Ends the test, with exit code 1 if a row was wrong. */
    static void end() {
        System.out.println(wrong == 0 ? "all " + rows + " answers are as due" : wrong + " answers are not as due");
        if (wrong != 0) System.exit(1);
    }

    // ---- objects

    static void text(ChalkTramps x, String text) {
        x.wipe();
        for (int i = 0; i < text.length(); i++) x.write(text.charAt(i));
    }

    static ChalkTramps written(String text) {
        ChalkTramps x = new ChalkTramps();
        text(x, text);
        return x;
    }

    static ChalkTramps on(String hill) {
        ChalkTramps x = written(hill);
        if (x.hill() < 0) due("hill of " + hill, x.fault(), NONE);
        return x;
    }

    /**
     * An object that has some of everything: tramp 0 a hummock (chalky, at 2), 1 plain (at 2, white by 5), 2 a teller that has
     * walked (from 5 to 6), 3 plain (at 9, white by 0); 7 acts, the last two behind what slot 0 keeps; a fault in the text.
     */
    static ChalkTramps busy() {
        ChalkTramps x = on("KG2abcdG7efI22I20I53I90");
        nights(x, 5);
        x.keep(0);
        x.walk(2, 6);
        x.tell(0, 1);
        x.seed(12345);
        x.knew(1, 1);
        x.knew(4, 0);
        x.write('Z');
        return x;
    }

    static void nights(ChalkTramps x, int n) {
        for (int i = 0; i < n; i++) x.night();
    }

    // ---- what can be seen of an object

    /** All that can be seen of an object by calls that change nothing (some 75 of them). */
    static String seen(ChalkTramps x) {
        StringBuilder all = new StringBuilder();
        for (int what = 0; what < 10; what++) all.append(x.count(what)).append(' ');
        for (int i = 0; i < 4; i++) {
            for (int what = 0; what < 7; what++) all.append(x.kiln(i, what)).append(' ').append(x.tramp(i, what)).append(' ');
        }
        long seed = x.seed(0);
        x.seed(seed);
        return all.append(seed).append(' ').append(x.fault()).append(' ').append(x.lay(0)).append(' ').append(x.lay(1)).toString();
    }

    private static String camp(ChalkTramps x) {
        StringBuilder all = new StringBuilder(" |");
        for (int what = 3; what <= 6; what++) all.append(' ').append(x.count(what));
        for (int tramp = 0; tramp < 4; tramp++) {
            all.append(' ').append(x.tramp(tramp, 0)).append(' ').append(x.tramp(tramp, 2)).append(' ').append(x.tramp(tramp, 3));
        }
        return all.toString();
    }

    /** What can be seen, and each act as it is undone, and what is kept: it uses the object up, by 400 calls at the most. */
    static String whole(ChalkTramps x) {
        StringBuilder all = new StringBuilder(seen(x));
        for (int act = 0; act < 15; act++) {
            int left = x.undo();
            all.append(" undo ").append(left);
            if (left < 0) break;
            all.append(camp(x));
        }
        for (int slot = 0; slot < 2; slot++) {
            int night = x.again(slot);
            all.append(" again ").append(night);
            if (night >= 0) all.append(camp(x));
        }
        return all.toString();
    }

    /** The call answers as is due, and the object is then as one that was not asked. */
    static void unchanged(String what, Supplier<ChalkTramps> made, ToLongFunction<ChalkTramps> call, long want) {
        ChalkTramps asked = made.get();
        due(what, call.applyAsLong(asked), want);
        due(what + " changes nothing", whole(asked).equals(whole(made.get())));
    }

    // ---- tests that stand below a sentence

    static void runSentences(Class<?> tests) {
        String document = document();
        int sentences = 0;
        for (Method test : tests.getDeclaredMethods()) {
            Sentence sentence = test.getAnnotation(Sentence.class);
            if (sentence == null) continue;
            sentences++;
            about("'" + sentence.value() + "' (" + test.getName() + ")");
            if (!document.isEmpty()) due("it stands in the document", document.contains(sentence.value()));
            int before = rows;
            run(test);
            due("it has rows", rows > before);
        }
        System.out.println(sentences + " sentences");
        end();
    }

    private static void run(Method test) {
        try {
            test.invoke(null);
        } catch (InvocationTargetException | IllegalAccessException e) {
            wrong("ended by " + (e.getCause() == null ? e : e.getCause()));
        }
    }

    /** The document with its white space folded; empty, and said so, if it is not there. */
    private static String document() {
        try {
            return Files.readString(DOCUMENT).replaceAll("\\s+", " ");
        } catch (IOException e) {
            System.out.println("there is no " + DOCUMENT + ": sentences are not looked for in it");
            return "";
        }
    }
}
