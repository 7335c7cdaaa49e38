import com.sun.management.ThreadMXBean;
import java.lang.management.ManagementFactory;

/** What 512 calls make must stay far below the room that all calls of a run share. */
public final class RoomTest {
    private static final long MOST_BYTES = 1_000_000;

    public static void main(String[] args) {
        DebtClearing house = Houses.with(8);
        for (int place = 0; place < 64; place++) {
            if (place / 8 != place % 8) {
                house.addDebt(place / 8, place % 8, 10);
            }
        }
        room("new object", DebtClearing::new);
        house.save();
        Check.Call[] calls = {
            house::isConsistent, house::triangles, house::trianglesByProduct, () -> house.reachCount(0),
            () -> house.reachCountByRounds(0), () -> house.memberByPosition(7), house::debtsAfterClearing,
            () -> house.shareIfDefault(0, 1), () -> house.writeDebts(0), house::restore,
            () -> Houses.run(house, "clear;debt 0 1 5;pay 0 1 5;net 0 1;pledge 0 1"), house::clearAll, house::undo,
            () -> house.declareDefault(0), house::save};
        for (int index = 0; index < calls.length; index++) {
            Check.Call call = calls[index];
            room("call " + index, () -> many(call));
        }
        Check.finish();
    }

    private static Object many(Check.Call call) {
        for (int times = 0; times < 512; times++) {
            Check.outcome(call);
        }
        return null;
    }

    private static void room(String what, Check.Call call) {
        ThreadMXBean threads = (ThreadMXBean) ManagementFactory.getThreadMXBean();
        long id = Thread.currentThread().getId();
        long before = threads.getThreadAllocatedBytes(id);
        call.answer();
        long bytes = threads.getThreadAllocatedBytes(id) - before;
        Check.same(what + " takes " + bytes + " bytes, too much", bytes > MOST_BYTES, false);
    }
}
