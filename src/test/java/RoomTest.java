import com.sun.management.ThreadMXBean;
import java.lang.management.ManagementFactory;

/** What calls make is counted: none but town() and the constructor may make anything. */
public final class RoomTest {
    private static final String SIX = "h915,l814,h723,w132,h021,i511";
    /** With the letters, the town and who is shut out they are the calls that an object is used for at most. */
    private static final int TIMES = 512 - 29 - 1 - 6;
    /** Asked for once, as asking makes things too. */
    private static final ThreadMXBean METER = (ThreadMXBean) ManagementFactory.getThreadMXBean();
    private static int wrong;

    public static void main(String[] args) {
        // In its first round the machine makes things of its own: it loads classes.
        lifeOfAnObject(Long.MAX_VALUE / 2);
        lifeOfAnObject(256);
        lifeOfAnObject(256);
        System.out.println(wrong == 0 ? "room is kept" : "too much room is taken");
        System.exit(wrong == 0 ? 0 : 1);
    }

    /** All the calls that an object is used for at most, with what the machine makes of its own. */
    private static void lifeOfAnObject(long own) {
        long before = bytesMade();
        KeyOnStreet x = new KeyOnStreet();
        due("an object", bytesMade() - before, own + 4096);
        before = bytesMade();
        for (int i = 0; i < SIX.length(); i++) {
            x.letter(SIX.charAt(i));
        }
        x.town();
        due("a town", bytesMade() - before, own + 6 * 64);
        for (int house = 0; house < 6; house++) {
            x.shut(house, true);
        }
        before = bytesMade();
        dearCalls(x);
        due(TIMES + " dear calls", bytesMade() - before, own);
    }

    private static long bytesMade() {
        return METER.getCurrentThreadAllocatedBytes();
    }

    private static void due(String what, long bytes, long most) {
        if (bytes > most) {
            wrong++;
            System.out.println(what + ": " + bytes + " bytes, at most " + most + " are due");
        }
    }

    private static void dearCalls(KeyOnStreet x) {
        for (int i = 0; i < TIMES; i++) {
            switch (i % 10) {
                case 0 -> x.digest();
                case 1 -> x.hang();
                case 2 -> x.twoKeys();
                case 3 -> x.best(10);
                case 4 -> x.guess(0);
                case 5 -> x.nights(60, i, 0);
                case 6 -> x.image();
                case 7 -> x.restore();
                case 8 -> x.see(i % 6, 9, true);
                default -> x.by(i % 3, 0);
            }
        }
    }
}
