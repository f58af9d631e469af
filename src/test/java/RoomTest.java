import com.sun.management.ThreadMXBean;
import java.lang.management.ManagementFactory;

/** All calls of a run live in one room: 512 dear calls of one object make little that is new. */
public final class RoomTest {
    /** A run has room for 7.3 million fields and elements; counted in bytes this is far less. */
    private static final long MOST_BYTES = 7_300_000;

    private static final String GREAT_MACHINE = greatMachine();

    public static void main(String[] args) {
        for (int step = 1; step <= 50; step += 7) {
            long growing = bytesOf(step, false);
            Check.same("bytes of growing programs, " + step, 1, growing < MOST_BYTES ? 1 : 0);
            long shrinking = bytesOf(step, true);
            Check.same("bytes of shrinking programs, " + step, 1, shrinking < MOST_BYTES ? 1 : 0);
        }
        Check.same("bytes of refused calls", 1, bytesOfRefused() < MOST_BYTES ? 1 : 0);
        Check.finish();
    }

    /** Twenty KINDS in a chain, so that each NODE has 20 INSTRUCTIONS, and 60 PARTS, so that all rows are widest. */
    private static String greatMachine() {
        StringBuilder text = new StringBuilder();
        for (int k = 0; k < 19; k++) {
            text.append((char) ('a' + k) + "=" + (char) ('b' + k) + " 1 ");
        }
        text.append("t=store(a,a) 1 t=add(a,a) 1 t=# 1 ");
        return text + "t=lt(lt(lt(lt(#,#),#),#),#) 9 ".repeat(7) + "t=lt(lt(#,var),var) 9 ";
    }

    /** Always 0 on a Java that does not count: the calls are then made, but not weighed. */
    private static long allocated() {
        if (ManagementFactory.getThreadMXBean() instanceof ThreadMXBean beans && beans.isThreadAllocatedMemorySupported()) {
            return beans.getThreadAllocatedBytes(Thread.currentThread().getId());
        }
        return 0;
    }

    private static void feed(TileChoice x, byte[] text) {
        int[] four = new int[5];
        for (int from = 0; from < text.length; from += 20) {
            for (int i = 0; i < 20; i++) {
                four[i / 4] = four[i / 4] << 8 | (from + i < text.length ? text[from + i] & 255 : 0);
            }
            x.feed(four[0], four[1], four[2], four[3], four[4]);
        }
        x.end(text.length);
    }

    /** Programs of other sizes each time, told to one object as often as its calls allow. */
    private static long bytesOf(int step, boolean shrinking) {
        byte[] machine = GREAT_MACHINE.getBytes();
        byte[][] programs = new byte[60][];
        for (int i = 0; i < programs.length; i++) {
            int trees = 1 + i * step % 57;
            programs[shrinking ? programs.length - 1 - i : i] = "store(add(1,2),add(3,4))".repeat(trees).getBytes();
        }
        long before = allocated();
        TileChoice x = new TileChoice();
        feed(x, machine);
        Check.same("machine", -1, x.machine());
        int calls = machine.length / 20 + 3;
        for (int i = 0; i < programs.length && calls + programs[i].length / 20 + 5 <= Supply.CALLS; i++) {
            feed(x, programs[i]);
            Check.same("program", -1, x.program());
            x.list();
            x.run(true);
            calls += programs[i].length / 20 + 5;
        }
        return allocated() - before;
    }

    private static long bytesOfRefused() {
        long before = allocated();
        TileChoice x = new TileChoice();
        for (int i = 0; i < Supply.CALLS; i++) {
            Check.refuses("word", IndexOutOfBoundsException.class, () -> x.word(0));
        }
        return allocated() - before;
    }
}
