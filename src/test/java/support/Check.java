import java.io.IOException;
import java.nio.file.Files;
import java.nio.file.Path;

/** What the tests share: due answers, due exceptions, and texts fed to an object. */
final class Check {
    private static final Path DOCUMENT = Path.of("../shared/DOC.md");
    private static int wrong = 0;
    private static String document = null;
    private static String sentence = "";

    private Check() {
    }

    interface Call {
        long answer();
    }

    /** What follows tests these words of the document; they are looked for there, so that no quote is a made one. */
    static void sentence(String words) {
        sentence = words;
        if (document == null) {
            document = readDocument();
        }
        if (!document.isEmpty() && !document.contains(words)) {
            tell("the document says nowhere: " + words);
        }
    }

    private static String readDocument() {
        try {
            return Files.readString(DOCUMENT).replaceAll("\\s+", " ");
        } catch (IOException e) {
            System.out.println("quotes are not looked for: there is no " + DOCUMENT);
            return "";
        }
    }

    private static void tell(String fault) {
        wrong++;
        System.out.println((sentence.isEmpty() ? "" : "[" + sentence + "] ") + fault);
    }

    static void same(String what, long want, long got) {
        if (want != got) {
            tell(what + " answered " + got + ", due is " + want);
        }
    }

    static void same(String what, String want, String got) {
        if (!want.equals(got)) {
            int same = 0;
            while (same < want.length() && same < got.length() && want.charAt(same) == got.charAt(same)) {
                same++;
            }
            tell(what + " answered from " + same + " on\n" + piece(got, same) + "\ndue is\n" + piece(want, same));
        }
    }

    /** Some of a text around where it differs from another: enough to see how, not so much as to hide it. */
    private static String piece(String text, int around) {
        return text.substring(Math.max(0, around - 100), Math.min(text.length(), around + 100));
    }

    /** The class itself, not one below it: what the Java machine throws by itself is never due. */
    static void refuses(String what, Class<? extends RuntimeException> due, Call call) {
        try {
            long got = call.answer();
            tell(what + " answered " + got + ", due is " + due.getSimpleName());
        } catch (RuntimeException e) {
            if (e.getClass() != due) {
                tell(what + " threw " + e + ", due is " + due.getSimpleName());
            }
        }
    }

    static int wrongSoFar() {
        return wrong;
    }

    static void finish() {
        System.out.println(wrong == 0 ? "all answers are as due" : wrong + " answers are not as due");
        if (wrong != 0) {
            System.exit(1);
        }
    }

    /** Puts the text on the tape, behind what is there. */
    static void feed(TileChoice x, String text) {
        int before = x.count(7);
        for (int i = 0; i < text.length(); i += 20) {
            x.feed(four(text, i), four(text, i + 4), four(text, i + 8), four(text, i + 12), four(text, i + 16));
        }
        x.end(before + text.length());
    }

    private static int four(String text, int from) {
        int bytes = 0;
        for (int i = from; i < from + 4; i++) {
            bytes = bytes << 8 | (i < text.length() ? text.charAt(i) & 255 : 0);
        }
        return bytes;
    }

    static int machine(TileChoice x, String text) {
        feed(x, text);
        return x.machine();
    }

    static int program(TileChoice x, String text) {
        feed(x, text);
        return x.program();
    }

    static TileChoice with(String machine, String program) {
        TileChoice x = new TileChoice();
        same("machine " + machine, -1, machine(x, machine));
        same("program " + program, -1, program(x, program));
        return x;
    }

    static TileChoice with(String machine, String program, int[] given) {
        TileChoice x = with(machine, program);
        for (int v = 0; v < given.length; v++) {
            x.begin(v, given[v]);
        }
        return x;
    }

    static String result(TileChoice x) {
        StringBuilder text = new StringBuilder();
        int length = x.count(6);
        for (int i = 0; i < length; i += 8) {
            addEight(text, x.word(i), length);
        }
        return text.toString();
    }

    /** Puts the bytes of a word behind a text that comes to have 'length'; what is behind that must be zeros. */
    static void addEight(StringBuilder text, long eight, int length) {
        for (int shift = 56; shift >= 0; shift -= 8) {
            int b = (int) (eight >>> shift) & 255;
            if (text.length() < length) {
                text.append((char) b);
            } else {
                same("a byte behind the result", 0, b);
            }
        }
    }

    static String listing(TileChoice x) {
        int length = x.list();
        same("count(6) behind list()", length, x.count(6));
        return result(x);
    }
}
