import java.util.IdentityHashMap;
import java.util.List;
import java.util.Map;

/** Harbours in which calls are refused, and the look that a refused call has changed nothing. */
final class Harbours {
    interface Call {
        Object of(HitHarbour x);
    }

    /** A call that takes the number of a query, or of a reader. */
    interface Numbered {
        Object of(HitHarbour x, int number);
    }

    static final Snapshot.Maker FRESH = HitHarbour::new;
    static final Snapshot.Maker OPENED = Harbours::opened;
    static final Snapshot.Maker BUSY = Harbours::busy;
    static final Snapshot.Maker FULL = Harbours::full;

    private static final Map<Snapshot.Maker, List<String>> AHEAD = new IdentityHashMap<>();

    private Harbours() {
    }

    /** A busy harbour to which one call came often. */
    static Snapshot.Maker busyWith(int often, Call call) {
        return () -> {
            HitHarbour x = busy();
            for (int time = 0; time < often; time++) {
                call.of(x);
            }
            return x;
        };
    }

    private static HitHarbour opened() {
        HitHarbour x = new HitHarbour();
        x.open();
        return x;
    }

    /**
     * Six documents with a bit of everything: 0 with the child 1, 2 to 5; committed up to 2, refreshed up
     * to 3, synced up to 4; 1 and 3 are deleted; reader 0 is open, 1 closed; 23 queries, of which 22
     * has the size 20; two clauses, two stored queries, a draft of two words and two hits.
     */
    private static HitHarbour busy() {
        HitHarbour x = new HitHarbour();
        x.fold(5, 1);
        x.setStop(6, true);
        x.joinTo(1, 7);
        Calls.put(x, 0, 10, 1, 2);
        Calls.child(x, 0, 1);
        Calls.put(x, 3, 999, 30, 0);
        x.commit();
        Calls.put(x, 5, 0, 2, 6, 1);
        x.setPrice(2, 500);
        x.refresh();
        x.open();
        x.open();
        x.close(1);
        Calls.put(x, 1, 1, 2, 2);
        x.delete(1);
        x.sync();
        Calls.put(x, 2, 2, 1);
        x.delete(3);
        x.term(0, 1);
        x.term(0, 2);
        x.phrase(0, 1, 2, -1, 1, false);
        x.coloured(0);
        x.priced(0, 600);
        x.parents(0);
        Calls.setOf(x, 0, "s0s1f3");
        for (int query = 6; query < 22; query++) {
            x.boosted(query, 2);
        }
        x.clause('s', 0);
        x.clause('n', 3);
        x.keep(0);
        x.keep(4);
        x.draft(0, 5);
        x.draft(1, 30);
        x.search(0, 1, 24, false);
        return x;
    }

    /**
     * As much of everything as there can be: 24 documents, of which 2 is deleted and 1, 5, 9 .. have
     * a parent; 6 readers, of which 1 is closed; 30 queries, of which 19 has the size 20; 6 clauses,
     * 8 stored queries, a draft of 10 words in each field and 18 hits.
     */
    private static HitHarbour full() {
        HitHarbour x = new HitHarbour();
        for (int document = 0; document < 24; document++) {
            Calls.draft(x, document % 2, document % 3, document % 5);
            x.add(document % 6, document * 41, document % 4 == 1 ? document - 1 : -1);
            tellOf(x, document);
        }
        for (int reader = 2; reader < 6; reader++) {
            x.open();
        }
        x.close(1);
        makeQueries(x);
        for (int query = 19; query < 27; query++) {
            x.keep(query);
        }
        for (int query = 20; query < 26; query++) {
            x.clause("msfsss".charAt(query - 20), query);
        }
        for (int word = 0; word < 10; word++) {
            x.draft(0, word);
            x.draft(1, 30 - word);
        }
        x.search(5, 22, 24, false);
        return x;
    }

    private static void tellOf(HitHarbour x, int document) {
        if (document == 9) {
            x.commit();
        }
        if (document == 12 || document == 18) {
            x.refresh();
            x.open();
        }
        if (document == 14) {
            x.delete(2);
            x.setPrice(3, 500);
        }
        if (document == 20) {
            x.sync();
        }
    }

    private static void makeQueries(HitHarbour x) {
        x.term(0, 0);
        for (int query = 0; query < 19; query++) {
            x.boosted(query, 9);
        }
        x.phrase(0, 0, 2, -1, 3, false);
        x.coloured(2);
        x.priced(0, 999);
        x.parents(0);
        x.clause('s', 20);
        x.clause('f', 21);
        x.set(0);
        for (int word = 0; word < 5; word++) {
            x.term(1, word);
        }
    }

    /** Looks that a call throws an exception, and that behind it all is the same as ahead of it. */
    static void refused(String exception, Snapshot.Maker maker, String what, Call call) {
        HitHarbour x = maker.make();
        Calls.due.same(what, Due.answerOf(() -> call.of(x)), "throws." + exception);
        unchanged(maker, what, call);
    }

    /** Looks that behind a call, whatever it answers, all is the same as ahead of it. */
    static void unchanged(Snapshot.Maker maker, String what, Call call) {
        List<String> ahead = AHEAD.computeIfAbsent(maker, Snapshot::of);
        List<String> behind = Snapshot.of(() -> {
            HitHarbour x = maker.make();
            Due.answerOf(() -> call.of(x));
            return x;
        });
        for (int line = 0; line < ahead.size() && line < behind.size(); line++) {
            if (!ahead.get(line).equals(behind.get(line))) {
                Calls.due.same(what + ", what is behind it", behind.get(line), ahead.get(line));
                return;
            }
        }
        Calls.due.same(what + ", what is behind it", behind.size(), ahead.size());
    }

    /** Looks that a call throws for each number that no query has. */
    static void noQuery(Numbered call) {
        range(OPENED, "there is no query", x -> call.of(x, 0));
        for (int query : new int[] {-1, 23, 29, 30, 31, 32, Integer.MIN_VALUE, Integer.MAX_VALUE}) {
            range(BUSY, "query " + query, x -> call.of(x, query));
        }
        range(FULL, "query 30 of 30", x -> call.of(x, 30));
    }

    /** Looks that a call throws for each number that no reader has that is open. */
    static void noReader(Numbered call) {
        range(FRESH, "there is no reader", x -> call.of(x, 0));
        for (int reader : new int[] {-1, 2, 5, 6, 31, 32, Integer.MIN_VALUE, Integer.MAX_VALUE}) {
            range(BUSY, "reader " + reader, x -> call.of(x, reader));
        }
        range(BUSY, "reader 1, which was closed", x -> call.of(x, 1));
        range(FULL, "reader 6 of 6", x -> call.of(x, 6));
        HitHarbour x = BUSY.make();
        x.crash();
        Calls.due.range("reader 0, which was closed by a crash", () -> call.of(x, 0));
    }

    static void range(Snapshot.Maker maker, String what, Call call) {
        refused("IndexOutOfBoundsException", maker, what, call);
    }

    static void argument(Snapshot.Maker maker, String what, Call call) {
        refused("IllegalArgumentException", maker, what, call);
    }

    static void element(Snapshot.Maker maker, String what, Call call) {
        refused("NoSuchElementException", maker, what, call);
    }

    static void state(Snapshot.Maker maker, String what, Call call) {
        refused("IllegalStateException", maker, what, call);
    }

    static void tooGreat(Snapshot.Maker maker, String what, Call call) {
        refused("UnsupportedOperationException", maker, what, call);
    }

    static void arithmetic(Snapshot.Maker maker, String what, Call call) {
        refused("ArithmeticException", maker, what, call);
    }
}
