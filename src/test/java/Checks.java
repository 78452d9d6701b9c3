import java.util.Arrays;

/** Counts wrong answers, and hides how a text is typed and a number is read from what was printed. */
final class Checks {
    private int wrong = 0;
    private int looked = 0;
    private String sentence = "";

    /** The sentence of the document that the next answers are about; it is told with those that are wrong. */
    void sentence(String words) {
        sentence = words;
    }

    void due(String what, long got, long want) {
        looked++;
        if (got != want) {
            tellWrong(what + " answered " + got + ", due is " + want);
        }
    }

    void due(String what, String got, String want) {
        looked++;
        if (!got.equals(want)) {
            tellWrong(what + " answered " + got + ", due is " + want);
        }
    }

    void dueAll(String what, int[] got, int... want) {
        due(what, Arrays.toString(got), Arrays.toString(want));
    }

    /** What a call throws, by the exception's name, or "nothing". */
    void dueThrow(String what, Runnable call, String want) {
        String got = "nothing";
        try {
            call.run();
        } catch (RuntimeException e) {
            got = e.getClass().getSimpleName();
        }
        due(what, got, want);
    }

    private void tellWrong(String line) {
        wrong++;
        if (wrong <= 40) {
            System.out.println(sentence.isEmpty() ? line : line + "  << " + sentence + " >>");
        }
    }

    /** Ends the test. */
    void finish() {
        if (wrong > 0) {
            System.out.println(wrong + " of " + looked + " answers are wrong");
            System.exit(1);
        }
        System.out.println(looked + " answers are as due");
    }

    static void type(HiddenMoves x, String text) {
        for (int i = 0; i < text.length(); i += 8) {
            int n = Math.min(8, text.length() - i);
            long characters = 0;
            for (int j = 0; j < n; j++) {
                characters = characters << 8 | text.charAt(i + j);
            }
            if (x.type(characters, n) != i + n) {
                throw new IllegalStateException("can't type " + text);
            }
        }
    }

    /** Reads the text with a new object. */
    void fault(String text, int fault, int place) {
        HiddenMoves x = new HiddenMoves();
        due("fault of " + text, read(x, text), fault);
        due("place in " + text, x.place(), place);
        due("the text is gone: " + text, x.type('[', 1), 1);
    }

    void fine(String text) {
        fault(text, 0, -1);
    }

    static int read(HiddenMoves x, String text) {
        type(x, text);
        return x.read();
    }

    static HiddenMoves game(String text) {
        HiddenMoves x = new HiddenMoves();
        if (read(x, text) != 0) {
            throw new IllegalStateException("no game: " + text);
        }
        return x;
    }

    /** What print() prints, or "none". */
    static String printed(HiddenMoves x, int what) {
        int n = x.print(what);
        if (n == HiddenMoves.NONE) {
            return "none";
        }
        String text = lastPrinted(x);
        return text.length() == n ? text : "wrong length " + n + " of " + text;
    }

    static String lastPrinted(HiddenMoves x) {
        StringBuilder text = new StringBuilder();
        for (int i = 0; x.character(i) != HiddenMoves.NONE; i++) {
            text.append((char) x.character(i));
        }
        return text.toString();
    }
}
