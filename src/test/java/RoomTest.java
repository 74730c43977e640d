import java.lang.management.ManagementFactory;

/** All calls of a run live in one room, so a call must make nothing that it does not keep. */
public final class RoomTest {
    private static final long MOST_FOR_A_DESK = 20000;
    private static final long MOST_FOR_CALLS = 12000;

    public static void main(String[] args) {
        if (!(ManagementFactory.getThreadMXBean() instanceof com.sun.management.ThreadMXBean)) {
            System.out.println("this machine does not count what is made; nothing was measured");
            return;
        }
        com.sun.management.ThreadMXBean bean = (com.sun.management.ThreadMXBean) ManagementFactory.getThreadMXBean();
        // Once before the measuring, so that what the machine makes for itself is not counted.
        useAll(new OctavianDesk());
        useAll(new OctavianDesk());
        long first = bean.getCurrentThreadAllocatedBytes();
        OctavianDesk desk = new OctavianDesk();
        long second = bean.getCurrentThreadAllocatedBytes();
        int calls = useAll(desk);
        long third = bean.getCurrentThreadAllocatedBytes();
        System.out.println("bytes made: " + (second - first) + " by the constructor, " + (third - second) + " by " + calls + " calls");
        if (second - first > MOST_FOR_A_DESK || third - second > MOST_FOR_CALLS) {
            System.out.println("too much is made");
            System.exit(1);
        }
    }

    /** Each method, in each order: the lists of units are the one thing that calls make. */
    private static int useAll(OctavianDesk d) {
        String text = "a=2(b*c'+(d-e))*f;h=b;";
        for (int i = 0; i < text.length(); i++) {
            d.append(text.charAt(i));
        }
        int calls = text.length();
        for (int round = 0; round < 2; round++) {
            for (int order = 0; order < 8; order++) {
                d.setOrder(order);
                d.set(0, 0, 14);
                d.setFour(1, true, 2, 4, 6, 8);
                d.load(13, 2);
                d.add(1, 2, 3, false);
                d.multiply(2, 4, 3);
                d.conjugate(5);
                d.commutator(2, 4, 3);
                d.associator(2, 4, 1, 3);
                d.divide(1, 2, 3, 4);
                d.steps(1, 2);
                d.lastNorm(2, 1);
                d.commuting(1);
                d.dimension(255);
                d.commute(1, 2);
                d.associate(1, 2, 3);
                d.elements(1000);
                d.carryOut();
                d.undo();
                d.left(1, 2, 3);
                d.unitOf(2);
                d.digest();
                calls += 22;
            }
        }
        d.clearText();
        return calls + 1;
    }
}
