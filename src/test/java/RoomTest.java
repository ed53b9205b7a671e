import java.lang.management.ManagementFactory;

/** All calls of one run live in one room, so that a house makes all its rows at first and no call makes more. */
public final class RoomTest {
    private static final int CALLS = 512;
    /** The Java machine's own loading of classes and the like stays below this. */
    private static final long MOST_BYTES = 64 * 1024;
    private static final long MOST_BYTES_OF_HOUSE = 64 * 1024;

    public static void main(String[] args) {
        Check check = new Check();
        everyCall(new AnnuityHouse());
        AnnuityHouse[] made = new AnnuityHouse[1];
        check.due(true, "a new house is small", () -> {
            long before = bytes();
            made[0] = new AnnuityHouse();
            return bytes() - before < MOST_BYTES_OF_HOUSE;
        });
        check.due(true, CALLS + " times every call makes no objects", () -> {
            long before = bytes();
            for (int i = 0; i < CALLS; i++) {
                everyCall(made[0]);
            }
            return bytes() - before < MOST_BYTES;
        });
        check.end();
    }

    private static long bytes() {
        com.sun.management.ThreadMXBean threads = (com.sun.management.ThreadMXBean) ManagementFactory.getThreadMXBean();
        return threads.getThreadAllocatedBytes(Thread.currentThread().getId());
    }

    private static void everyCall(AnnuityHouse house) {
        house.setMode(AnnuityHouse.HALF_UP);
        house.mode();
        house.round(1000000000000L, 7, 6);
        house.clearRow();
        house.payMany(0, 41, 1000000000, -3);
        house.worth(40, 19999);
        house.worth(0, 19999);
        house.clearRow();
        house.pay(0, -1000000000);
        house.payMany(1, 40, 25000001, 1);
        house.amount(3);
        house.signAt(19999);
        house.changes();
        house.rowYield();
        house.lend(1000000000, 19999, 60);
        house.holiday(5);
        house.change(9, 19997);
        house.early(30, 77);
        house.rows();
        house.rowOf(4, 4);
        house.total(2);
        house.price(1000000000, 1000000000, 40, 19999);
        house.bondYield(1000000000, 1000000000, 40, 7000000000L);
        house.accrued(1000, 3, 7);
        house.clearLives();
        for (int age = 0; age < 30; age++) {
            house.live(1000000 - age * 33331);
        }
        house.lifeWorth(0, 1000000000, 19999);
        house.deathWorth(0, 1000000000, 19999);
        house.premium(0, 1000000000, 19999);
        house.reserve(0, 15, 1000000000, 19999, true);
        house.clearWeights();
        house.weigh(3);
        house.weigh(4);
        house.part(1000000000000L, 1);
        house.clearSteps();
        house.step(0, 100);
        house.step(1000, 300);
        house.tax(1000000000000L);
        house.untaxed(1000000000);
        house.errors(19999);
        house.meanAmount();
        house.interestShare();
    }
}
