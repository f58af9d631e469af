/** An object that has had many texts tells what a new one tells that has had the latest alone. */
public final class ReuseTest {
    private static final int OBJECTS = 1500;
    private static final String GREAT = "k = store(add(k, #(2)), mul(neg(#), var)) 3 ".repeat(6) + "k = var 1 k = # 1 "
            + "k = store(k, k) 5 k = neg(k) 1 k = add(k, k) 2 k = mul(k, k) 1";
    private static final String MANY = "store(add(v1,2), mul(neg(3), v4))".repeat(50);

    private final Texts texts;
    private final String seed;
    private final TileChoice x = new TileChoice();
    private String machine = "";
    private String program = "";
    private boolean machineLast;

    private ReuseTest(int seed) {
        this.seed = "seed " + seed + " ";
        texts = new Texts(5_000_000L + seed);
    }

    public static void main(String[] args) {
        Check.sentence("with both there, all is told anew");
        for (int seed = 0; seed < OBJECTS && Check.wrongSoFar() < 20; seed++) {
            new ReuseTest(seed).oneObject();
        }
        new ReuseTest(0).greatAndSmall();
        Check.finish();
    }

    private void read(String text, boolean asMachine) {
        machineLast = asMachine;
        if (asMachine) {
            machine = text;
            Check.machine(x, text);
        } else {
            program = text;
            Check.program(x, text);
        }
    }

    private boolean isCovered() {
        return x.count(0) > 0 && x.count(3) > 0 && x.count(3) == x.count(8);
    }

    private void oneObject() {
        int rounds = 2 + texts.below(4);
        for (int i = 0; i < rounds; i++) {
            if (isCovered() && texts.below(2) == 0) {
                x.list();
                x.run(true);
            }
            boolean asMachine = texts.below(2) == 0;
            String text = asMachine ? texts.machine() : texts.program();
            read(texts.below(4) == 0 ? texts.damaged(text) : text, asMachine);
        }
        compare();
    }

    private void compare() {
        TileChoice fresh = fresh();
        Check.same(seed + "told", Snapshot.withoutResult(fresh), Snapshot.withoutResult(x));
        if (isCovered()) {
            Check.same(seed + "list", fresh.list(), x.list());
            Check.same(seed + "run(true)", fresh.run(true), x.run(true));
            for (int i = 0; i < x.count(6) && i < 400; i += 8) {
                Check.same(seed + "word " + i, fresh.word(i), x.word(i));
            }
        } else if (x.count(3) > 0) {
            Check.same(seed + "run(false)", fresh.run(false), x.run(false));
        }
        if (x.count(3) > 0) {
            for (int v = 0; v < 16; v++) {
                Check.same(seed + "variable " + v, fresh.variable(v), x.variable(v));
                Check.same(seed + "cell " + v, fresh.cell(v), x.cell(v));
            }
        }
    }

    /** The latest text comes last here, too: the REASON is its own. */
    private TileChoice fresh() {
        TileChoice y = new TileChoice();
        if (machineLast) {
            Check.program(y, program);
            Check.machine(y, machine);
        } else {
            Check.machine(y, machine);
            Check.program(y, program);
        }
        return y;
    }

    /** From the greatest texts to the smallest and back: rows that are used again hold nothing of what was. */
    private void greatAndSmall() {
        read(GREAT, true);
        read(MANY, false);
        Check.same("great", 400, x.count(4));
        int length = x.list();
        read("s = store(r, r) 1 r = # 1", true);
        read("store(1, 2)", false);
        Check.same("small", "r0 = 1\nr1 = 1\nr0 = 0 r0 r1\n", Check.listing(x));
        Check.same("small states", 2, x.count(10));
        read(GREAT, true);
        Check.same("great machine, small program", 2 + 5, x.cost(0, 0));
        read(MANY, false);
        Check.same("great again", length, x.list());
        compare();
    }
}
