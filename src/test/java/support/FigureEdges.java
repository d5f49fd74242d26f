import java.util.ArrayList;
import java.util.List;

/** Edges of the whole: a new object, how long it is used, refused calls, and promises 37 to 40. */
final class FigureEdges extends Calls {
    private static final int CALLS = 512;

    private FigureEdges() {
    }

    static void all(Edges edges) {
        String used = "An object is used for at most 512 calls after it has been made; what later calls answer is free.";
        edges.of(0, used, FigureEdges::last);
        edges.of(0, used, FigureEdges::lastDearOnes);
        edges.of(0, "A method that throws an exception changes nothing.", FigureEdges::manyRefusedCalls);
        edges.of(0, "A method that throws an exception changes nothing.", FigureEdges::refusedAndThenRight);
        orderEdges(edges);
        edges.of(1, "Creates a harbour without documents, segments, readers and queries.", FigureEdges::newObject);
        edges.of(37, "Returns how many operations were told, lost ones too.", FigureEdges::operationsToldAndLost);
        shareEdges(edges);
        meanEdges(edges);
        edges.of(40, "Checks the harbour: for each reader that is open and each query, both ways of searching keep the"
                + " same 24 hits, by local facts and not; each document that was not deleted is in one segment or the"
                + " buffer.", FigureEdges::soundAtTheEdges);
        tellingEdges(edges);
    }

    private static void orderEdges(Edges edges) {
        String order = "If several exceptions apply, the one that is documented first is thrown.";
        edges.of(0, order, FigureEdges::orderOfWriting);
        edges.of(0, order, FigureEdges::orderOfSimpleQueries);
        edges.of(0, order, FigureEdges::orderOfQueriesOfQueries);
        edges.of(0, order, FigureEdges::orderOfClauses);
        edges.of(0, order, FigureEdges::orderOfSearching);
    }

    private static void shareEdges(Edges edges) {
        String share = "Returns the number of those that are there and were deleted divided by that of all that are"
                + " there, both converted to float.";
        edges.of(38, share, FigureEdges::leastAndGreatestShare);
        edges.of(38, share, FigureEdges::shareOfThoseThatAreThere);
        edges.of(38, "Throws `ArithmeticException` if there are none", FigureEdges::shareThrows);
    }

    private static void meanEdges(Edges edges) {
        String mean = "Returns the sum divided by the number of hits, both converted to double.";
        edges.of(39, mean, FigureEdges::meanOfOneAndOfMany);
        edges.of(39, mean, FigureEdges::meanOfGreatScores);
        edges.of(39, "Throws `ArithmeticException` if there are none", FigureEdges::meanThrows);
    }

    /** Calls that only tell are no state changes, at whatever edge. */
    private static void tellingEdges(Edges edges) {
        edges.of(13, "Returns the number of documents.", () -> onlyTells(x -> x.documents()));
        edges.of(14, "Returns the number of segments.", () -> onlyTells(x -> x.segments()));
        edges.of(15, "Returns the number of the document.", () -> onlyTells(x -> x.segmentAt(0, 0)));
        edges.of(18, "Returns the number of documents.", () -> onlyTells(x -> x.seen(0)));
        edges.of(29, "Returns the number of hits.", () -> onlyTells(x -> x.hits()));
        edges.of(30, "Returns the number of the document.", () -> onlyTells(x -> x.hitAt(1)));
        edges.of(31, "Returns the score.", () -> onlyTells(x -> x.scoreAt(1)));
        edges.of(32, "Returns the score.", () -> onlyTells(x -> x.score(0, 0, 0, true)));
        edges.of(33, "Returns the number of documents.", () -> onlyTells(x -> x.count(0, 20, 0, true)));
        edges.of(34, "Returns the number of documents.", () -> onlyTells(x -> x.having(0, 20)));
        edges.of(37, "Returns the number of operations.", () -> onlyTells(x -> x.operations()));
        edges.of(38, "Returns the share of the documents in segments that were deleted.",
                () -> onlyTells(x -> x.deletedShare()));
        edges.of(39, "Returns the mean score of the hits that were kept.", () -> onlyTells(x -> x.meanScore()));
        edges.of(40, "Returns true if so.", () -> onlyTells(x -> x.isSound()));
    }

    private static void onlyTells(Harbours.Call call) {
        Harbours.unchanged(Harbours.FRESH, "a new one", call);
        Harbours.unchanged(Harbours.BUSY, "a busy one", call);
        Harbours.unchanged(Harbours.FULL, "a full one", call);
    }

    private static void last() {
        HitHarbour x = new HitHarbour();
        x.add(0, 0, -1);
        for (int call = 2; call <= CALLS - 1; call++) {
            due.same("call " + call, x.setPrice(0, call), call == 2 ? 0 : call - 1);
        }
        due.same("the last call", x.operations(), 511L);
    }

    private static void lastDearOnes() {
        HitHarbour x = new HitHarbour();
        int calls = 0;
        for (int document = 0; document < 24; document++) {
            draft(x, 0, 1, document % 5);
            x.add(document % 6, document, document == 0 ? -1 : 0);
            calls += 3;
        }
        x.refresh();
        x.term(0, 1);
        for (int query = 0; query < 9; query++) {
            x.parents(query);
            x.boosted(query, 9);
        }
        calls += 20;
        for (int reader = 0; reader < 6; reader++) {
            x.open();
            calls++;
        }
        boolean isSound = true;
        while (calls < CALLS - 1) {
            isSound &= x.isSound();
            calls++;
        }
        due.same("each of many", isSound, true);
        due.same("the last call", x.search(5, 1, 24, true), 1);
    }

    private static List<Harbours.Call> refusedOfBoth() {
        List<Harbours.Call> calls = new ArrayList<>();
        calls.add(x -> x.fold(31, 0));
        calls.add(x -> x.setStop(-1, true));
        calls.add(x -> x.joinTo(3, 3));
        calls.add(x -> x.draft(2, 0));
        calls.add(x -> x.draft(0, 31));
        calls.add(x -> x.add(6, 0, -1));
        calls.add(x -> x.add(0, 1000, -1));
        calls.add(x -> x.add(0, 0, 1));
        calls.add(x -> x.delete(24));
        calls.add(x -> x.setPrice(-1, 0));
        calls.add(x -> x.setPrice(0, 1000));
        calls.add(x -> x.segmentAt(0, 24));
        calls.add(x -> x.close(1));
        calls.add(x -> x.seen(6));
        calls.add(x -> x.term(0, 31));
        calls.add(x -> x.phrase(0, 0, 0, 0, 10, true));
        calls.add(x -> x.priced(1, 0));
        calls.add(x -> x.coloured(6));
        calls.add(x -> x.boosted(0, 0));
        calls.add(x -> x.boosted(30, 1));
        calls.add(x -> x.parents(-1));
        calls.add(x -> x.clause('x', 0));
        calls.add(x -> x.clause('m', 30));
        calls.add(x -> x.set(7));
        calls.add(x -> x.search(0, 0, 25, false));
        calls.add(x -> x.search(1, 0, 24, false));
        calls.add(x -> x.searchAnew(0, 0, -1, false));
        calls.add(x -> x.searchAnew(0, 30, 0, true));
        calls.add(x -> x.hitAt(24));
        calls.add(x -> x.scoreAt(-1));
        calls.add(x -> x.score(0, 0, 23, false));
        calls.add(x -> x.count(0, 0, 6, true));
        calls.add(x -> x.having(6, 0));
        calls.add(x -> x.keep(30));
        calls.add(x -> x.met(6, 0));
        calls.add(x -> x.met(0, 1000));
        return calls;
    }

    private static List<Harbours.Call> refusedOfFull() {
        List<Harbours.Call> calls = refusedOfBoth();
        calls.add(x -> x.draft(0, 0));
        calls.add(x -> x.draft(1, 0));
        calls.add(x -> x.add(0, 0, -1));
        calls.add(x -> x.open());
        calls.add(x -> x.term(0, 0));
        calls.add(x -> x.phrase(0, 0, 0, -1, 0, true));
        calls.add(x -> x.priced(0, 0));
        calls.add(x -> x.coloured(0));
        calls.add(x -> x.boosted(0, 1));
        calls.add(x -> x.boosted(19, 1));
        calls.add(x -> x.parents(0));
        calls.add(x -> x.parents(19));
        calls.add(x -> x.clause('m', 0));
        calls.add(x -> x.set(0));
        calls.add(x -> x.keep(0));
        return calls;
    }

    private static int refuse(HitHarbour x, List<Harbours.Call> calls) {
        int refused = 0;
        for (Harbours.Call call : calls) {
            Object answer = Due.answerOf(() -> call.of(x));
            refused += answer instanceof String ? 1 : 0;
        }
        return refused;
    }

    private static void manyRefusedCalls() {
        List<Harbours.Call> ofBoth = refusedOfBoth();
        due.same("each is refused by a busy one", refuse(Harbours.BUSY.make(), ofBoth), ofBoth.size());
        Harbours.unchanged(Harbours.BUSY, "all of them in a row", x -> refuse(x, ofBoth));
        List<Harbours.Call> ofFull = refusedOfFull();
        due.same("each is refused by a full one", refuse(Harbours.FULL.make(), ofFull), ofFull.size());
        Harbours.unchanged(Harbours.FULL, "all of them in a row", x -> refuse(x, ofFull));
    }

    private static void refusedAndThenRight() {
        HitHarbour x = new HitHarbour();
        due.argument("a colour that is out of range", () -> x.add(6, 5, -1));
        due.same("the first number is left", x.add(5, 5, -1), 0);
        due.argument("a price that is out of range", () -> x.setPrice(0, 1000));
        due.same("the price is left", x.setPrice(0, 6), 5);
        due.argument("a word that is none", () -> x.fold(3, 31));
        due.same("folding is left", x.fold(3, 4), 3);
        due.argument("a word that joins itself", () -> x.joinTo(3, 3));
        due.same("joining is left", x.joinTo(3, 4), -1);
        due.argument("a range that is none", () -> x.priced(1, 0));
        due.same("the first query is left", x.priced(0, 1), 0);
        due.range("a clause of none", () -> x.clause('m', 1));
        due.same("the first clause is left", x.clause('m', 0), 1);
        due.argument("a number that is out of range", () -> x.set(7));
        due.same("the clause is left", x.set(0), 1);
        due.range("a query that is none", () -> x.keep(2));
        due.same("the first place is left", x.keep(1), 1);
        due.range("a reader that is none", () -> x.close(0));
        due.same("the first reader is left", x.open(), 0);
        due.same("two operations", x.operations(), 2L);
    }

    private static void orderOfWriting() {
        Harbours.range(Harbours.BUSY, "draft: the field ahead of the word", x -> x.draft(2, 31));
        Harbours.argument(Harbours.FULL, "draft: the word ahead of the room", x -> x.draft(0, 31));
        Harbours.argument(Harbours.BUSY, "add: the colour ahead of the parent", x -> x.add(6, 0, 24));
        Harbours.argument(Harbours.BUSY, "add: the price ahead of the parent", x -> x.add(0, 1000, 1));
        Harbours.argument(Harbours.FULL, "add: the colour ahead of the room", x -> x.add(-1, 0, -1));
        Harbours.argument(Harbours.FULL, "add: the price ahead of the room", x -> x.add(0, -1, 0));
        Harbours.argument(Harbours.FULL, "add: the price ahead of both", x -> x.add(0, -1, 1));
        Harbours.element(Harbours.FULL, "add: a parent that is none ahead of the room", x -> x.add(0, 0, 24));
        Harbours.element(Harbours.FULL, "add: a parent that was deleted ahead of the room", x -> x.add(0, 0, 2));
        Harbours.element(Harbours.FULL, "add: a parent with a parent ahead of the room", x -> x.add(0, 0, 5));
        Harbours.element(Harbours.BUSY, "setPrice: none ahead of the price", x -> x.setPrice(6, 1000));
        Harbours.element(Harbours.BUSY, "setPrice: a deleted one ahead of the price", x -> x.setPrice(1, -1));
    }

    private static void orderOfSimpleQueries() {
        Harbours.range(Harbours.BUSY, "term: the field ahead of the word", x -> x.term(-1, 31));
        Harbours.range(Harbours.FULL, "term: the field ahead of the room", x -> x.term(2, 0));
        Harbours.argument(Harbours.FULL, "term: the word ahead of the room", x -> x.term(0, -1));
        Harbours.range(Harbours.BUSY, "phrase: the field ahead of words", x -> x.phrase(2, 31, 31, 31, 0, true));
        Harbours.range(Harbours.BUSY, "phrase: the field ahead of the slop", x -> x.phrase(2, 0, 0, -1, 10, true));
        Harbours.range(Harbours.FULL, "phrase: the field ahead of the room", x -> x.phrase(-1, 0, 0, -1, 0, true));
        Harbours.argument(Harbours.FULL, "phrase: a ahead of the room", x -> x.phrase(0, -1, 0, -1, 0, true));
        Harbours.argument(Harbours.FULL, "phrase: b ahead of the room", x -> x.phrase(0, 0, -1, -1, 0, true));
        Harbours.argument(Harbours.FULL, "phrase: c ahead of the room", x -> x.phrase(0, 0, 0, -2, 0, true));
        Harbours.argument(Harbours.FULL, "phrase: the slop ahead of the room", x -> x.phrase(0, 0, 0, -1, -1, true));
        Harbours.argument(Harbours.FULL, "priced: the range ahead of the room", x -> x.priced(1, 0));
        Harbours.argument(Harbours.FULL, "coloured: the colour ahead of the room", x -> x.coloured(6));
    }

    private static void orderOfQueriesOfQueries() {
        Harbours.range(Harbours.BUSY, "boosted: the query ahead of the factor", x -> x.boosted(23, 0));
        Harbours.range(Harbours.FULL, "boosted: the query ahead of the room", x -> x.boosted(30, 1));
        Harbours.argument(Harbours.BUSY, "boosted: the factor ahead of the size", x -> x.boosted(22, 10));
        Harbours.argument(Harbours.FULL, "boosted: the factor ahead of the room", x -> x.boosted(0, 0));
        Harbours.argument(Harbours.FULL, "boosted: the factor ahead of both", x -> x.boosted(19, 0));
        Harbours.tooGreat(Harbours.FULL, "boosted: the size ahead of the room", x -> x.boosted(19, 1));
        Harbours.range(Harbours.FULL, "parents: the query ahead of the room", x -> x.parents(30));
        Harbours.tooGreat(Harbours.FULL, "parents: the size ahead of the room", x -> x.parents(19));
        Harbours.range(Harbours.FULL, "keep: the query ahead of the room", x -> x.keep(30));
    }

    private static void orderOfClauses() {
        Harbours.argument(Harbours.BUSY, "clause: the kind ahead of the query", x -> x.clause('x', 23));
        Harbours.argument(Harbours.FULL, "clause: the kind ahead of the room", x -> x.clause('M', 0));
        Harbours.range(Harbours.FULL, "clause: the query ahead of the room", x -> x.clause('m', 30));
        Harbours.argument(Harbours.FULL, "set: the number ahead of the room", x -> x.set(-1));
        Snapshot.Maker great = () -> {
            HitHarbour x = Harbours.BUSY.make();
            x.clause('m', 22);
            return x;
        };
        Harbours.argument(great, "set: the number ahead of the size", x -> x.set(7));
        Snapshot.Maker fullAndGreat = () -> {
            HitHarbour x = great.make();
            while (Due.answerOf(() -> x.coloured(1)) instanceof Integer) {
                continue;
            }
            return x;
        };
        Harbours.tooGreat(fullAndGreat, "set: the size ahead of the room", x -> x.set(0));
        Harbours.argument(fullAndGreat, "set: the number ahead of both", x -> x.set(-1));
        Snapshot.Maker fullWithout = () -> {
            HitHarbour x = new HitHarbour();
            for (int query = 0; query < 30; query++) {
                x.coloured(0);
            }
            return x;
        };
        Harbours.argument(fullWithout, "set: no clauses ahead of the room", x -> x.set(0));
    }

    private static void orderOfSearching() {
        Harbours.range(Harbours.BUSY, "search: the reader ahead of the number", x -> x.search(2, 0, 25, false));
        Harbours.range(Harbours.BUSY, "search: a closed one ahead of the number", x -> x.search(1, 0, -1, false));
        Harbours.range(Harbours.BUSY, "search: the query ahead of the number", x -> x.search(0, 23, 25, false));
        Harbours.range(Harbours.BUSY, "searchAnew: the reader ahead of it", x -> x.searchAnew(2, 0, 25, false));
        Harbours.range(Harbours.BUSY, "searchAnew: the query ahead of it", x -> x.searchAnew(0, 23, -1, false));
        Harbours.range(Harbours.BUSY, "score: the reader ahead of the document", x -> x.score(1, 0, 24, false));
        Harbours.range(Harbours.BUSY, "score: the query ahead of the document", x -> x.score(0, 23, 24, false));
        Harbours.range(Harbours.BUSY, "count: the reader ahead of the colour", x -> x.count(1, 0, 6, false));
        Harbours.range(Harbours.BUSY, "count: the query ahead of the colour", x -> x.count(0, -1, -1, true));
    }

    private static void newObject() {
        HitHarbour x = new HitHarbour();
        due.same("no documents", x.documents(), 0);
        due.same("no segments", x.segments(), 0);
        due.range("indeed", () -> x.segmentAt(0, 0));
        due.range("no readers", () -> x.seen(0));
        due.range("none to close", () -> x.close(0));
        due.range("no queries", () -> x.parents(0));
        due.argument("no clauses", () -> x.set(0));
        due.same("no hits", x.hits(), 0);
        due.same("no operations", x.operations(), 0L);
        due.same("nothing to lose", x.crash(), 0);
        due.same("sound", x.isSound(), true);
        due.same("the first document", x.add(0, 0, -1), 0);
        due.same("the first reader", x.open(), 0);
        due.same("the first query", x.coloured(0), 0);
        HitHarbour y = new HitHarbour();
        due.same("another one has its own", y.documents(), 0);
        due.range("readers too", () -> y.seen(0));
        due.range("and queries", () -> y.keep(0));
    }

    private static void operationsToldAndLost() {
        HitHarbour x = new HitHarbour();
        for (int round = 1; round <= 30; round++) {
            x.add(0, 0, -1);
            x.setPrice(0, 0);
            x.delete(0);
            due.same("told, round " + round, x.operations(), 3L * round);
            due.same("all are lost, round " + round, x.crash(), 3);
            due.same("and counted, round " + round, x.operations(), 3L * round);
        }
        x.add(0, 0, -1);
        x.sync();
        x.crash();
        due.same("done again it is not told again", x.operations(), 91L);
        x.commit();
        x.crash();
        due.same("nor committed", x.operations(), 91L);
    }

    private static void leastAndGreatestShare() {
        HitHarbour x = new HitHarbour();
        putMany(x, 24);
        x.refresh();
        due.same("none", x.deletedShare(), 0f);
        for (int document = 0; document < 24; document++) {
            x.delete(document);
            due.same("deleted " + (document + 1), x.deletedShare(), (document + 1) / 24f);
        }
        due.same("all", x.deletedShare(), 1f);
    }

    private static void shareOfThoseThatAreThere() {
        HitHarbour x = new HitHarbour();
        putMany(x, 3);
        x.refresh();
        putMany(x, 4);
        x.delete(3);
        due.same("the buffer has no share", x.deletedShare(), 0f);
        x.delete(0);
        due.same("told, not refreshed", x.deletedShare(), 1f / 3f);
        x.refresh();
        due.same("refreshed, without the buffer's", x.deletedShare(), 1f / 6f);
        x.delete(1);
        x.delete(2);
        due.same("a segment of deleted ones", x.deletedShare(), 3f / 6f);
        x.refresh();
        due.same("is not there then", x.deletedShare(), 0f);
        x.delete(4);
        x.refresh();
        putMany(x, 2);
        x.refresh();
        due.same("there till it is merged", x.deletedShare(), 1f / 5f);
        putMany(x, 2);
        x.refresh();
        due.same("and not behind that", x.deletedShare(), 0f);
    }

    private static void shareThrows() {
        Harbours.arithmetic(Harbours.FRESH, "no document", x -> x.deletedShare());
        Snapshot.Maker buffered = () -> {
            HitHarbour x = new HitHarbour();
            putMany(x, 2);
            x.delete(0);
            return x;
        };
        Harbours.arithmetic(buffered, "only in the buffer", x -> x.deletedShare());
        HitHarbour x = new HitHarbour();
        putMany(x, 1);
        x.refresh();
        x.delete(0);
        due.same("one, though deleted", x.deletedShare(), 1f);
        x.refresh();
        due.arithmetic("gone", () -> x.deletedShare());
        putMany(x, 1);
        x.refresh();
        x.crash();
        due.arithmetic("lost", () -> x.deletedShare());
    }

    private static void meanOfOneAndOfMany() {
        HitHarbour x = new HitHarbour();
        put(x, 0, 0, 1);
        put(x, 0, 0, 1, 1);
        put(x, 1, 0, 1, 2);
        x.term(0, 1);
        x.coloured(1);
        int r = reader(x);
        x.search(r, 0, 24, false);
        due.same("of three, with a part", x.meanScore(), 850 / 3.0);
        x.search(r, 0, 2, false);
        due.same("of those that were kept", x.meanScore(), 325.0);
        x.searchAnew(r, 0, 1, false);
        due.same("of one", x.meanScore(), 400.0);
        x.search(r, 1, 24, false);
        due.same("of a score of 0", x.meanScore(), 0.0);
    }

    private static void meanOfGreatScores() {
        HitHarbour x = new HitHarbour();
        putMany(x, 1);
        put(x, 0, 0, 1);
        put(x, 0, 0, 1);
        x.term(0, 1);
        for (int query = 0; query < 15; query++) {
            x.boosted(query, 9);
        }
        int r = reader(x);
        x.search(r, 8, 24, false);
        due.same("twice 1449656205, which the greatest int is less than", x.meanScore(), 1449656205.0);
        x.search(r, 15, 24, false);
        due.same("twice what is below 0", x.meanScore(), -1369503579.0);
    }

    private static void meanThrows() {
        Harbours.arithmetic(Harbours.FRESH, "nothing was searched", x -> x.meanScore());
        Snapshot.Maker without = () -> {
            HitHarbour x = Harbours.BUSY.make();
            x.search(0, 0, 0, false);
            return x;
        };
        Harbours.arithmetic(without, "none was kept", x -> x.meanScore());
        HitHarbour x = Harbours.BUSY.make();
        due.same("some were kept", x.meanScore() > 0, true);
        x.term(1, 17);
        x.searchAnew(0, 23, 24, false);
        due.arithmetic("none matches", () -> x.meanScore());
    }

    private static void soundAtTheEdges() {
        due.same("a new one", new HitHarbour().isSound(), true);
        due.same("one with a reader of nothing", Harbours.OPENED.make().isSound(), true);
        for (Snapshot.Maker maker : List.of(Harbours.BUSY, Harbours.FULL)) {
            HitHarbour x = maker.make();
            due.same("as it is", x.isSound(), true);
            x.refresh();
            due.same("refreshed", x.isSound(), true);
            x.crash();
            due.same("behind a crash", x.isSound(), true);
            x.commit();
            due.same("committed", x.isSound(), true);
            for (int document = 0; document < 24; document++) {
                int number = document;
                Due.answerOf(() -> x.delete(number));
            }
            due.same("all deleted", x.isSound(), true);
            x.commit();
            due.same("and gone", x.isSound(), true);
            due.same("none is there", x.documents() + x.segments(), 0);
        }
    }
}
