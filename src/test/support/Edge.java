import java.io.IOException;
import java.nio.file.Files;
import java.nio.file.Path;
import java.util.HashSet;
import java.util.NoSuchElementException;
import java.util.Set;
import java.util.function.IntSupplier;

/** What the tests of the document's edges share: its sentences, texts to tell, and what an object shows. */
final class Edge {
    static final int THROWN = -999999;
    private static final int PROMISES = 47;

    // What stands ahead of the first promise is number 0.
    private final String[] sections;
    private final Set<String> quoted = new HashSet<>();
    private final boolean[] isQuoted = new boolean[PROMISES + 1];
    private String sentence = "";
    private int answers;
    private int wrong;

    Edge() {
        sections = sectionsOf();
    }

    private static String[] sectionsOf() {
        try {
            String doc = Files.readString(Path.of("../shared/DOC.md")).replaceAll("\\s+", " ");
            return doc.split("## Promise ");
        } catch (IOException e) {
            throw new IllegalStateException("the document can not be read", e);
        }
    }

    /** The words of the document that the next answers are due by; they must stand in that promise. */
    void says(int promise, String words) {
        sentence = "promise " + promise + ", \"" + words + "\"";
        isQuoted[promise] = true;
        quoted.add(promise + words);
        if (!sections[promise].contains(words)) {
            wrong++;
            System.out.println(sentence + " does not stand in the document");
        }
    }

    void due(String call, long got, long want) {
        answers++;
        if (got != want) {
            wrong++;
            System.out.println(sentence + ": " + call + " answered " + got + ", due is " + want);
        }
    }

    void due(String call, boolean got, boolean want) {
        due(call, got ? 1 : 0, want ? 1 : 0);
    }

    /** Exactly these numbers stand in the row. */
    void dueRow(OnlyHalves x, int... want) {
        due("count(6)", x.count(6), want.length);
        for (int i = 0; i < want.length; i++) {
            due("row(" + i + ")", row(x, i), want[i]);
        }
        due("row(" + want.length + ")", row(x, want.length), THROWN);
    }

    /** A call that changes nothing that can be seen. */
    void stays(OnlyHalves x, String call, int want, IntSupplier made) {
        String before = all(x);
        due(call, made.getAsInt(), want);
        String after = all(x);
        answers++;
        if (!before.equals(after)) {
            wrong++;
            System.out.println(sentence + ": " + call + " changed\n  " + before + "\nto\n  " + after);
        }
    }

    void refused(OnlyHalves x, String call, IntSupplier made) {
        stays(x, call, OnlyHalves.NONE, made);
    }

    /** Tells what was found, and ends; each promise of these must have been quoted. */
    void end(int first, int last) {
        for (int promise = first; promise <= last; promise++) {
            if (!isQuoted[promise]) {
                wrong++;
                System.out.println("no sentence of promise " + promise + " was looked at");
            }
        }
        System.out.println(quoted.size() + " sentences, " + answers + " answers looked at, " + wrong + " wrong");
        if (wrong != 0) {
            System.exit(1);
        }
    }

    static int row(OnlyHalves x, int i) {
        try {
            return x.row(i);
        } catch (NoSuchElementException e) {
            return THROWN;
        }
    }

    static int of(OnlyHalves x, int person, int what) {
        try {
            return x.of(person, what);
        } catch (NoSuchElementException e) {
            return THROWN;
        }
    }

    static int thing(OnlyHalves x, int thing, int what) {
        try {
            return x.thing(thing, what);
        } catch (NoSuchElementException e) {
            return THROWN;
        }
    }

    /** Empties the text and tells this one. */
    static void text(OnlyHalves x, String told) {
        x.end(0);
        for (int i = 0; i < told.length(); i += 4) {
            int v = 0;
            for (int j = i; j < i + 4; j++) {
                v = v << 8 | (j < told.length() ? told.charAt(j) : 0);
            }
            x.sign(v);
        }
        x.end(told.length());
    }

    static int market(OnlyHalves x, String told) {
        text(x, told);
        return x.market();
    }

    static int rule(OnlyHalves x, String told) {
        text(x, told);
        return x.rule();
    }

    /** A new object of a rule, and of a market told in as many texts as there are. */
    static OnlyHalves with(String rule, String... markets) {
        OnlyHalves x = new OnlyHalves();
        for (String told : markets) {
            market(x, told);
        }
        rule(x, rule);
        return x;
    }

    static String times(String part, int n) {
        return part.repeat(n);
    }

    /** All that can be seen of an object without changing it. */
    static String all(OnlyHalves x) {
        StringBuilder seen = new StringBuilder("counts");
        for (int what = 0; what < 8; what++) {
            seen.append(' ').append(x.count(what));
        }
        seen.append(", row");
        for (int i = 0; i < x.count(6); i++) {
            seen.append(' ').append(row(x, i));
        }
        for (int person = 0; person < x.count(0); person++) {
            seen.append(", one");
            for (int what = 0; what < 5; what++) {
                seen.append(' ').append(of(x, person, what));
            }
            for (int half = 0; half < 2 * x.count(1); half++) {
                seen.append(' ').append(x.worth(half, person));
            }
        }
        for (int thing = 0; thing < x.count(1); thing++) {
            seen.append(", thing");
            for (int what = 0; what < 5; what++) {
                seen.append(' ').append(thing(x, thing, what));
            }
            seen.append(' ').append(x.steady(thing));
        }
        int sort = x.law(0, 0);
        int fee = x.law(1, 0);
        int seed = x.seed(0);
        x.law(0, sort);
        x.law(1, fee);
        x.seed(seed);
        seen.append(", law ").append(sort).append(' ').append(fee).append(", seed ").append(seed);
        return seen.append(", today ").append(x.today()).toString();
    }
}
