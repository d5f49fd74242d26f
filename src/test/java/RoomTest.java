import java.lang.management.ManagementFactory;

/** What an object and its calls take of the room: calls make nothing but exceptions. */
public final class RoomTest {
    private static final long BYTES_OF_AN_OBJECT = 60_000;
    private static final Due due = new Due();
    private static final com.sun.management.ThreadMXBean threads =
            (com.sun.management.ThreadMXBean) ManagementFactory.getThreadMXBean();

    private RoomTest() {
    }

    public static void main(String[] args) {
        long made = Long.MAX_VALUE;
        long used = Long.MAX_VALUE;
        int sum = 0;
        // The machine itself may make something in a round, so the least one is taken.
        for (int round = 0; round < 20; round++) {
            long start = bytes();
            HitHarbour x = new HitHarbour();
            made = Math.min(made, bytes() - start);
            start = bytes();
            sum = round(x);
            used = Math.min(used, bytes() - start);
        }
        due.same("rule 12: an object takes " + made + " bytes", made < BYTES_OF_AN_OBJECT, true);
        due.same("rule 12: bytes that calls make", used, 0L);
        due.same("the round goes through", sum > 0, true);
        due.end();
    }

    private static long bytes() {
        return threads.getThreadAllocatedBytes(Thread.currentThread().getId());
    }

    private static int round(HitHarbour x) {
        int sum = 0;
        x.fold(3, 4);
        x.setStop(5, true);
        x.joinTo(4, 6);
        for (int document = 0; document < 20; document++) {
            for (int word = 0; word < 10; word++) {
                x.draft(word % 2, (word * document) % 7);
            }
            x.add(document % 6, document, document % 4 == 1 ? document - 1 : -1);
            x.setPrice(document / 2, document);
            sum += document % 3 == 0 ? x.refresh() : x.sync();
        }
        x.commit();
        x.delete(0);
        x.crash();
        x.open();
        x.term(0, 4);
        x.phrase(0, 1, 2, 3, 4, false);
        x.phrase(1, 1, 2, 3, 4, true);
        x.priced(0, 9);
        x.coloured(2);
        x.boosted(0, 3);
        x.parents(5);
        for (int query = 0; query < 6; query++) {
            x.clause("msfmsn".charAt(query), query);
        }
        x.set(1);
        for (int query = 0; query < 8; query++) {
            x.keep(query);
            sum += x.search(0, query, 24, true) + x.searchAnew(0, query, 24, false);
            sum += x.having(0, query) + x.count(0, query, 2, true);
        }
        x.search(0, 0, 24, false);
        sum += x.hits() + x.hitAt(0) + x.scoreAt(0) + x.score(0, 0, x.hitAt(0), true) + x.met(2, 2);
        sum += x.documents() + x.segments() + x.segmentAt(0, 0) + x.seen(0) + (int) x.operations();
        sum += (int) (x.deletedShare() + x.meanScore()) + (x.isSound() ? 1 : 0) + x.close(0);
        return sum;
    }
}
