import java.util.ArrayList;
import java.util.List;

/**
 * All that the face tells of a harbour. Much of it can only be told by changing the harbour, so
 * each look takes a harbour made anew; none of them needs more than 300 calls.
 */
final class Snapshot {
    interface Maker {
        HitHarbour make();
    }

    private static final int WORDS = 31;
    private static final int READERS = 6;
    private static final int QUERIES = 30;

    private final List<String> lines = new ArrayList<>();
    private String look = "";

    private Snapshot() {
    }

    static List<String> of(Maker maker) {
        Snapshot snapshot = new Snapshot();
        snapshot.lookAtFigures("figures", maker.make());
        snapshot.lookAtWords(maker.make());
        snapshot.lookAtDraft(maker.make());
        for (int reader = 0; reader < READERS; reader++) {
            snapshot.lookAtReader("reader " + reader, maker.make(), reader);
        }
        snapshot.lookAtClauses(maker.make());
        snapshot.lookAtRoom(maker.make());
        snapshot.lookAtLatest(maker.make());
        snapshot.lookBehindRefreshing(maker.make());
        snapshot.lookBehindCrash(maker.make());
        snapshot.lookBehindSync(maker.make());
        return snapshot.lines;
    }

    private void tell(String name, Due.Call call) {
        lines.add(look + ", " + name + " " + Due.answerOf(call));
    }

    private void lookAtFigures(String name, HitHarbour x) {
        look = name;
        tell("documents", () -> x.documents());
        tell("segments", () -> Calls.segments(x));
        tell("hits", () -> Calls.hits(x));
        tell("operations", () -> x.operations());
        tell("deletedShare", () -> x.deletedShare());
        tell("meanScore", () -> x.meanScore());
        tell("isSound", () -> x.isSound());
        for (int colour = 0; colour < 6; colour++) {
            int price = colour * 199;
            int own = colour;
            tell("met " + colour, () -> x.met(own, price));
        }
    }

    private void lookAtWords(HitHarbour x) {
        look = "words";
        for (int n = 0; n < WORDS; n++) {
            int word = n;
            tell("fold " + word, () -> x.fold(word, word));
            tell("setStop " + word, () -> x.setStop(word, false));
            tell("joinTo " + word, () -> x.joinTo(word, -1));
        }
    }

    private void lookAtDraft(HitHarbour x) {
        look = "draft";
        tell("field 0", () -> x.draft(0, 8));
        tell("field 1", () -> x.draft(1, 8));
        tell("add", () -> x.add(0, 0, -1));
        tell("refresh", () -> x.refresh());
        tell("open", () -> x.open());
        lookAtReader("draft as a document", x, READERS - 1);
        lookAtReader("draft as a document", x, 0);
    }

    private void lookAtReader(String name, HitHarbour x, int reader) {
        look = name;
        tell("seen", () -> x.seen(reader));
        for (int n = 0; n < QUERIES && Due.answerOf(() -> x.seen(reader)) instanceof Integer; n++) {
            int query = n;
            tell("query " + query, () -> x.search(reader, query, 24, false));
            tell("its best hit", () -> x.hitAt(0));
            tell("its score", () -> x.meanScore());
        }
        tell("close", () -> x.close(reader));
    }

    private void lookAtClauses(HitHarbour x) {
        look = "clauses";
        tell("set", () -> x.set(0));
        Object made = Due.answerOf(() -> x.term(0, 0));
        int query = made instanceof Integer ? (Integer) made - 1 : 0;
        for (int n = 0; n < READERS; n++) {
            int reader = n;
            tell("reader " + reader, () -> x.search(reader, query, 24, true));
            tell("its hits", () -> Calls.hits(x));
        }
        tell("a clause", () -> x.clause('s', 0));
    }

    private void lookAtRoom(HitHarbour x) {
        look = "room";
        tell("clause", () -> x.clause('m', 0));
        tell("keep", () -> x.keep(0));
        tell("met", () -> x.met(0, 0));
        tell("term", () -> x.term(0, 0));
        tell("open", () -> x.open());
        tell("add", () -> x.add(0, 0, -1));
        tell("delete", () -> x.delete(0));
        tell("setPrice", () -> x.setPrice(1, 5));
        tell("setPrice again", () -> x.setPrice(1, 6));
        tell("operations", () -> x.operations());
    }

    private void lookAtLatest(HitHarbour x) {
        look = "latest";
        Object opened = Due.answerOf(() -> x.open());
        tell("open", () -> opened);
        lookAtReader("latest", x, opened instanceof Integer ? (Integer) opened : 0);
    }

    private void lookBehindRefreshing(HitHarbour x) {
        look = "refreshing";
        tell("refresh", () -> x.refresh());
        lookAtFigures("behind refreshing", x);
        tell("commit", () -> x.commit());
        tell("sync", () -> x.sync());
        tell("crash", () -> x.crash());
        lookAtFigures("behind committing", x);
    }

    private void lookBehindCrash(HitHarbour x) {
        look = "crash";
        tell("crash", () -> x.crash());
        lookAtFigures("behind a crash", x);
        tell("sync", () -> x.sync());
        tell("open", () -> x.open());
        lookAtReader("behind a crash", x, 2);
        tell("refresh", () -> x.refresh());
        lookAtFigures("behind a crash, refreshed", x);
    }

    private void lookBehindSync(HitHarbour x) {
        look = "sync";
        tell("sync", () -> x.sync());
        tell("crash", () -> x.crash());
        lookAtFigures("behind syncing", x);
        tell("add", () -> x.add(0, 0, -1));
    }
}
