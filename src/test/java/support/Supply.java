/** Objects that were all told the same: a new one as soon as one has had the 512 calls that the document promises. */
final class Supply {
    static final int CALLS = 512;

    interface Told {
        void tell(TileChoice x);
    }

    private final String machine;
    private final String program;
    private final int[] given;
    private final Told last;
    private TileChoice object;
    private int calls;

    /** The last thing that each object is told is one call. */
    Supply(String machine, String program, int[] given, Told last) {
        this.machine = machine;
        this.program = program;
        this.given = given;
        this.last = last;
    }

    static int callsToFeed(String text) {
        return 2 + (text.length() + 19) / 20;
    }

    /** Whether an object can be told these texts and BEGIN, and be asked something then. */
    static boolean suffices(String machine, String program) {
        return callsToTell(machine, program, 16) < CALLS;
    }

    private static int callsToTell(String machine, String program, int begins) {
        return callsToFeed(machine) + 1 + callsToFeed(program) + 1 + begins + 1;
    }

    /** The object for one call more. */
    TileChoice next() {
        if (object == null || calls >= CALLS) {
            object = Check.with(machine, program, given);
            last.tell(object);
            calls = callsToTell(machine, program, given.length);
        }
        calls++;
        return object;
    }

    /** The bytes of the RESULT, eight by a call. */
    String result() {
        StringBuilder text = new StringBuilder();
        int length = next().count(6);
        for (int i = 0; i < length; i += 8) {
            Check.addEight(text, next().word(i), length);
        }
        return text.toString();
    }
}
