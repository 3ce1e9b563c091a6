import java.lang.management.ManagementFactory;

/**
 * All calls of a run live in one room (600,000 objects and arrays, 7.3 million fields and elements), and nothing of it is given
 * back: so a run of the dearest calls, 512 a house, makes little, and calls that make no thing make nothing.
 */
public final class RoomTest {
    private static final com.sun.management.ThreadMXBean BEAN = (com.sun.management.ThreadMXBean) ManagementFactory.getThreadMXBean();

    private static long made() { return BEAN.getCurrentThreadAllocatedBytes(); }

    private static HatchHouse stocked() {
        HatchHouse x = new HatchHouse();
        for (int i = 0; i < 100; i++) x.fish(1 + i % 4, 9, i - 1, i - 2);
        x.row(7, 16);
        x.probes(0, 100);
        x.card();
        for (int i = 0; i < 23; i++) x.step(0, 1, 101, 7, 0, 5);
        for (int i = 0; i < 12; i++) x.step(1, 11, 0, 0, 0, 0);
        for (int i = 0; i < 11; i++) x.step(2, 5, i % 6, 0, 0, 0);
        x.step(2, 11, 1, 0, 0, 0);
        x.step(2, 6, 1, 0, 0, 0);
        return x;
    }

    private static void dearCalls(HatchHouse x) {
        for (int i = 0; i < 60; i++) {
            x.act(2);
            x.put(100, i % 16, 0x4014000000000000L + i * 1000L);
            x.minute();
            x.reading(100, i % 5, true);
            x.kin(99, i, false);
            x.along(101);
            x.value(0);
        }
    }

    public static void main(String[] args) {
        dearCalls(stocked());
        long ahead = made();
        HatchHouse x = stocked();
        long house = made() - ahead;
        x.kin(99, 98, true);
        ahead = made();
        dearCalls(x);
        long calls = made() - ahead;
        if (house > 100000) { System.out.println("a house with 102 things makes " + house + " bytes"); System.exit(1); }
        if (calls > 1000) { System.out.println("420 dear calls make " + calls + " bytes"); System.exit(1); }
    }
}
