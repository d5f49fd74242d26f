import java.util.Arrays;

/** Edges of searching, counting and stored queries, and promises 27 to 36. */
final class SearchEdges extends Calls {
    private static final String NO_READER_OR_QUERY =
            "Throws `IndexOutOfBoundsException` if there is no such reader, or it was closed, or no such query";
    private static final String NO_QUERY = "Throws `IndexOutOfBoundsException` if there is no such query";
    private static final int[] NO_COLOURS = {-1, 6, Integer.MIN_VALUE, Integer.MAX_VALUE};

    private SearchEdges() {
    }

    /** A way of searching. */
    private interface Search {
        int of(HitHarbour x, int reader, int query, int most);
    }

    static void all(Edges edges) {
        edges.of(0, "Everything is found a second time, document by document.", SearchEdges::bothWays);
        String best = "Hits are the documents that match, the greatest score first, of several the lowest number; as"
                + " many are kept as are asked for.";
        edges.of(0, best, SearchEdges::bestHitsFirst);
        edges.of(0, best, SearchEdges::asManyAsAreAskedFor);
        countTerms(edges);
        edges.of(0, "A query can be stored, at most 8.", SearchEdges::storedQueries);
        String meets = "A draft meets a stored query if a document of it, analysed now, with a colour and a price that"
                + " are told and no parent, matches this, as the only one of a reader.";
        edges.of(0, meets, SearchEdges::meetsAlone);
        edges.of(0, meets, SearchEdges::meetsAsAnalysedNow);
        searchEdges(edges, 27, (x, reader, query, most) -> x.search(reader, query, most, false));
        searchEdges(edges, 28, (x, reader, query, most) -> x.searchAnew(reader, query, most, true));
        hitEdges(edges);
        scoreEdges(edges);
        countEdges(edges);
        keepEdges(edges);
    }

    private static void countTerms(Edges edges) {
        edges.of(0, "The documents that match a query are counted by their colours.", SearchEdges::countedByColours);
        String own = "If it is a set, its own clauses 'f' that are colours, and not within others, can be left out for"
                + " this, as if each document matched them.";
        edges.of(0, own, SearchEdges::ownColoursLeftOut);
        edges.of(0, own, SearchEdges::othersStay);
        edges.of(0, own, SearchEdges::nothingElseIsLeft);
    }

    private static void searchEdges(Edges edges, int promise, Search search) {
        edges.of(promise, "- `most`: how many hits are kept at most, 0 to 24", () -> leastAndGreatestMost(search));
        edges.of(promise, "Returns how many documents match.", () -> howManyMatch(search));
        edges.of(promise, NO_READER_OR_QUERY, () -> noReaderOrQuery((x, reader, query) -> search.of(x, reader, query, 1)));
        edges.of(promise, "Throws `IllegalArgumentException` if the number is out of range", () -> noMost(search));
    }

    private static void hitEdges(Edges edges) {
        edges.of(29, "Returns the number of hits.", SearchEdges::hitsNumber);
        edges.of(30, "- `index`: the index, from 0", SearchEdges::firstAndLastHit);
        String noHit = "Throws `IndexOutOfBoundsException` if there is no such hit";
        edges.of(30, noHit, () -> noHit((x, hit) -> x.hitAt(hit)));
        edges.of(31, "- `index`: the index, from 0", SearchEdges::firstAndLastScore);
        edges.of(31, noHit, () -> noHit((x, hit) -> x.scoreAt(hit)));
    }

    private static void scoreEdges(Edges edges) {
        edges.of(32, "Returns the score.", SearchEdges::scoreOfEach);
        edges.of(32, NO_READER_OR_QUERY, () -> noReaderOrQuery((x, reader, query) -> x.score(reader, query, 0, false)));
        edges.of(32, "Throws `NoSuchElementException` if it is none of the reader, or does not match",
                SearchEdges::scoreThrows);
    }

    private static void countEdges(Edges edges) {
        edges.of(33, "Returns the number of documents.", SearchEdges::countNumber);
        edges.of(33, NO_READER_OR_QUERY, () -> noReaderOrQuery((x, reader, query) -> x.count(reader, query, 0, true)));
        edges.of(33, "Throws `IllegalArgumentException` if there is no such colour", SearchEdges::countThrows);
        edges.of(34, "Returns the number of documents.", SearchEdges::havingNumber);
        edges.of(34, NO_READER_OR_QUERY, () -> noReaderOrQuery((x, reader, query) -> x.having(reader, query)));
    }

    private static void keepEdges(Edges edges) {
        edges.of(35, "Returns how many are stored.", SearchEdges::keepNumber);
        edges.of(35, NO_QUERY, () -> Harbours.noQuery((x, query) -> x.keep(query)));
        edges.of(35, "Throws `IllegalStateException` if there are 8", SearchEdges::keepFull);
        edges.of(36, "Returns which stored queries the draft meets; it stays.", SearchEdges::draftStays);
        edges.of(36, "Returns the sum of 2 to the power of the number of each one, in the order in which they were"
                + " stored.", SearchEdges::sumsOfPowers);
        edges.of(36, "Returns which stored queries the draft meets; it stays.", SearchEdges::nothingIsLeftOfMeeting);
        edges.of(36, "Throws `IllegalArgumentException` if the colour or the price is out of range",
                SearchEdges::metThrows);
    }

    /** A call that takes a reader's and a query's number. */
    private interface OfReaderAndQuery {
        Object of(HitHarbour x, int reader, int query);
    }

    private static void noReaderOrQuery(OfReaderAndQuery call) {
        Harbours.noReader((x, reader) -> call.of(x, reader, 0));
        Harbours.noQuery((x, query) -> call.of(x, 0, query));
        Harbours.range(Harbours.BUSY, "neither is there", x -> call.of(x, 2, 23));
    }

    private static void bothWays() {
        for (int query = 0; query < 30; query++) {
            found(Harbours.FULL.make(), 5, query, query % 2 == 0);
        }
        for (int query = 0; query < 23; query++) {
            found(Harbours.BUSY.make(), 0, query, query % 2 == 1);
        }
        HitHarbour x = Harbours.OPENED.make();
        x.term(0, 0);
        due.same("where there is nothing", found(x, 0, 0), "");
    }

    /** Documents 0 to 23, in one segment, with word 1 once, twice, three times, once and so on; a reader of them. */
    private static HitHarbour manyHits() {
        HitHarbour x = new HitHarbour();
        for (int number = 0; number < 24; number++) {
            for (int word = 0; word <= number % 3; word++) {
                x.draft(0, 1);
            }
            x.add(number % 6, number, -1);
        }
        x.term(0, 1);
        x.coloured(0);
        x.term(0, 2);
        reader(x);
        return x;
    }

    private static void bestHitsFirst() {
        HitHarbour x = manyHits();
        String[] all = found(x, 0, 0).split(" ");
        due.same("all of them", all.length, 24);
        for (int n = 0; n < 24; n++) {
            int number = n / 8 == 0 ? 3 * (n % 8) + 2 : n / 8 == 1 ? 3 * (n % 8) + 1 : 3 * (n % 8);
            due.same("hit " + n, all[n], number + ":" + new int[] {500, 400, 250}[n / 8]);
        }
        due.same("of the same score all by their numbers", found(x, 0, 1), "0:0 6:0 12:0 18:0");
    }

    private static void asManyAsAreAskedFor() {
        HitHarbour x = manyHits();
        String[] all = found(x, 0, 0).split(" ");
        for (int most : new int[] {0, 1, 2, 8, 9, 23, 24}) {
            String want = String.join(" ", Arrays.copyOf(all, most));
            x.search(0, 0, most, false);
            due.same("the best " + most, hits(x), want);
        }
        HitHarbour y = manyHits();
        for (int most = 24; most >= 0; most -= 4) {
            y.searchAnew(0, 0, most, false);
            due.same("the best anew " + most, hits(y), String.join(" ", Arrays.copyOf(all, most)));
        }
        y.search(0, 1, 24, false);
        due.same("no more than there are", hits(y), "0:0 6:0 12:0 18:0");
        y.search(0, 2, 24, false);
        due.same("which can be none", hits(y), "");
    }

    private static void countedByColours() {
        HitHarbour x = new HitHarbour();
        for (int colour = 0; colour <= 5; colour++) {
            for (int number = 0; number < colour; number++) {
                put(x, colour, 0, number % 2);
            }
        }
        x.term(0, 0);
        x.priced(0, 0);
        x.priced(1, 1);
        x.coloured(5);
        int r = reader(x);
        for (int colour = 0; colour <= 5; colour++) {
            due.same("all of colour " + colour, x.count(r, 1, colour, false), colour);
            due.same("half of colour " + colour, x.count(r, 0, colour, false), (colour + 1) / 2);
            due.same("none of colour " + colour, x.count(r, 2, colour, false), 0);
            due.same("of colour 5 and of " + colour, x.count(r, 3, colour, false), colour == 5 ? 5 : 0);
        }
        x.delete(0);
        due.same("as the reader sees it", x.count(r, 1, 1, false), 1);
        due.same("as another one does", x.count(reader(x), 1, 1, false), 0);
    }

    /**
     * Documents 0 to 5 of colours 0 to 5 with word 1, 6 to 11 likewise with word 2, and a reader of them;
     * queries 0 and 1: the words, 2 to 4: colours 0 to 2, 5: all prices.
     */
    private static HitHarbour colours() {
        HitHarbour x = new HitHarbour();
        for (int number = 0; number < 12; number++) {
            put(x, number % 6, number, number < 6 ? 1 : 2);
        }
        x.term(0, 1);
        x.term(0, 2);
        x.coloured(0);
        x.coloured(1);
        x.coloured(2);
        x.priced(0, 999);
        reader(x);
        return x;
    }

    private static String counts(HitHarbour x, int query, boolean isOwn) {
        StringBuilder told = new StringBuilder();
        for (int colour = 0; colour <= 5; colour++) {
            told.append(x.count(0, query, colour, isOwn));
        }
        return told.toString();
    }

    private static void ownColoursLeftOut() {
        Object[][] rows = {
            {"m0f2", 0, "100000", "111111"},
            {"f2", 0, "200000", "222222"},
            {"f2f3", 0, "000000", "222222"},
            {"s0f2", 0, "200000", "222222"},
            {"s0f2", 1, "100000", "111111"},
            {"s0s1f2", 2, "000000", "000000"},
            {"n0f2", 0, "100000", "111111"},
            {"m0m1f2", 0, "000000", "000000"},
            {"m0f2f2f2f2f2", 0, "100000", "111111"},
            {"f5f2", 0, "200000", "222222"},
            {"f2n3", 0, "200000", "202222"},
        };
        for (Object[] row : rows) {
            HitHarbour x = colours();
            int query = setOf(x, (Integer) row[1], (String) row[0]);
            due.same(row[0] + ", least " + row[1], counts(x, query, false), row[2]);
            due.same(row[0] + ", least " + row[1] + ", left out", counts(x, query, true), row[3]);
        }
    }

    private static void othersStay() {
        Object[][] rows = {
            {"m2", "200000"},
            {"s2", "200000"},
            {"n2m5", "022222"},
            {"f0", "111111"},
            {"f0f2", "111111"},
            {"m2f3", "200000"},
            {"m2f2", "200000"},
            {"f3s2", "222222"},
        };
        for (Object[] row : rows) {
            HitHarbour x = colours();
            int query = setOf(x, 0, (String) row[0]);
            due.same(row[0] + ", left out", counts(x, query, true), row[1]);
        }
        HitHarbour x = colours();
        setOf(x, 0, "f2m0");
        due.same("one within another set", counts(x, setOf(x, 0, "m6"), true), "100000");
        due.same("one within a filter", counts(x, setOf(x, 0, "f6"), true), "100000");
        due.same("one beside it is its own", counts(x, setOf(x, 0, "m6f2"), true), "100000");
        HitHarbour y = colours();
        y.boosted(2, 1);
        due.same("a boosted one is none", counts(y, setOf(y, 0, "m0f6"), true), "100000");
        y.clause('f', 2);
        y.set(0);
        due.same("a set of one is none", counts(y, setOf(y, 0, "m0f8"), true), "100000");
    }

    private static void nothingElseIsLeft() {
        HitHarbour x = colours();
        for (int query = 0; query <= 5; query++) {
            due.same("no set, query " + query, counts(x, query, true), counts(x, query, false));
        }
        setOf(x, 0, "m0f2");
        x.boosted(6, 2);
        due.same("a boosted set", counts(x, 7, true), "100000");
        due.same("left out for counting alone", x.having(0, 6), 1);
        due.same("found as ever", found(x, 0, 6), "0:464");
    }

    private static void storedQueries() {
        HitHarbour x = new HitHarbour();
        due.same("none", x.met(0, 0), 0);
        for (int query = 0; query < 9; query++) {
            x.priced(query, 999);
        }
        for (int query = 0; query < 8; query++) {
            due.same("stored", x.keep(query), query + 1);
        }
        due.state("no ninth", () -> x.keep(8));
        due.same("the eighth is met", x.met(0, 7), 255);
        due.same("the ninth is not", x.met(0, 999), 255);
        due.same("the first", x.met(0, 0), 1);
    }

    private static void meetsAlone() {
        HitHarbour x = new HitHarbour();
        put(x, 0, 5, 1);
        child(x, 0, 1);
        x.term(0, 1);
        x.parents(0);
        x.coloured(3);
        x.priced(7, 7);
        setOf(x, 0, "n2n3");
        setOf(x, 0, "m3n0");
        for (int query = 0; query < 6; query++) {
            x.keep(query);
        }
        reader(x);
        due.same("other documents do not match for it", x.met(0, 0), 0);
        due.same("its colour", x.met(3, 0), 4);
        due.same("its price", x.met(0, 7), 8 + 32);
        due.same("both", x.met(3, 7), 4 + 8 + 32);
        x.draft(0, 1);
        due.same("its word; it has no children, and is none", x.met(0, 0), 1);
        due.same("all that it can be", x.met(3, 7), 1 + 4 + 8);
        due.same("it is no document", x.documents(), 2);
        due.same("nor the reader's", found(x, 0, 0), "0:250 1:250");
        HitHarbour y = new HitHarbour();
        y.coloured(5);
        y.priced(999, 999);
        y.keep(0);
        y.keep(1);
        due.same("where there is no document and no reader", y.met(5, 999), 3);
    }

    private static void meetsAsAnalysedNow() {
        HitHarbour x = new HitHarbour();
        for (int word = 1; word <= 4; word++) {
            x.term(0, word);
            x.keep(word - 1);
        }
        x.phrase(0, 1, 4, -1, 7, true);
        x.phrase(0, 1, 4, -1, 8, true);
        x.keep(4);
        x.keep(5);
        draft(x, 0, 1, 9, 9, 9, 9, 9, 9, 9, 9, 4);
        due.same("as it is", x.met(0, 0), 1 + 8 + 32);
        x.fold(9, 2);
        due.same("folded", x.met(0, 0), 1 + 2 + 8 + 32);
        x.joinTo(2, 3);
        due.same("joined", x.met(0, 0), 1 + 2 + 4 + 8 + 32);
        x.setStop(2, true);
        due.same("dropped, at the same positions", x.met(0, 0), 1 + 8 + 32);
        x.fold(1, 2);
        due.same("folded and dropped", x.met(0, 0), 8);
        x.fold(1, 1);
        x.fold(9, 9);
        x.add(0, 0, -1);
        due.same("the document is analysed likewise", found(x, reader(x), 5), "0:76");
        due.same("then there are no words", x.met(0, 0), 0);
    }

    private static void leastAndGreatestMost(Search search) {
        HitHarbour x = manyHits();
        due.same("none is kept, all match", search.of(x, 0, 0, 0), 24);
        due.same("no hit", x.hits(), 0);
        due.range("indeed", () -> x.hitAt(0));
        due.same("one", search.of(x, 0, 0, 1), 24);
        due.same("the best", hits(x), "2:500");
        due.same("all", search.of(x, 0, 0, 24), 24);
        due.same("to the last", x.hits() + " " + x.hitAt(23) + " " + x.scoreAt(23), "24 21 250");
        due.same("one less", search.of(x, 0, 0, 23), 24);
        due.same("without the last", x.hits() + " " + x.hitAt(22), "23 18");
        due.same("none again", search.of(x, 0, 0, 0), 24);
        due.same("those ahead are gone", x.hits(), 0);
    }

    private static void howManyMatch(Search search) {
        HitHarbour x = manyHits();
        due.same("all", search.of(x, 0, 0, 3), 24);
        due.same("some", search.of(x, 0, 1, 3), 4);
        due.same("none", search.of(x, 0, 2, 3), 0);
        due.same("then there is no hit", x.hits(), 0);
        HitHarbour y = Harbours.OPENED.make();
        y.term(0, 0);
        due.same("of no documents", search.of(y, 0, 0, 24), 0);
    }

    private static void noMost(Search search) {
        for (int most : new int[] {-1, 25, Integer.MIN_VALUE, Integer.MAX_VALUE}) {
            Harbours.argument(Harbours.BUSY, "most " + most, x -> search.of(x, 0, 0, most));
            Harbours.argument(Harbours.FULL, "of many, most " + most, x -> search.of(x, 5, 22, most));
        }
    }

    private static void hitsNumber() {
        HitHarbour x = manyHits();
        due.same("none", x.hits(), 0);
        x.search(0, 0, 24, false);
        due.same("as many as there are documents", x.hits(), 24);
        due.range("a search that is refused", () -> x.search(1, 0, 0, false));
        due.same("leaves them", x.hits(), 24);
        x.search(0, 1, 24, false);
        due.same("as many as match", x.hits(), 4);
        x.search(0, 0, 5, false);
        due.same("as many as are asked for", x.hits(), 5);
        x.search(0, 2, 5, false);
        due.same("none again", x.hits(), 0);
    }

    private static void firstAndLastHit() {
        HitHarbour x = manyHits();
        x.search(0, 0, 24, false);
        due.same("the first", x.hitAt(0), 2);
        due.same("the last", x.hitAt(23), 21);
        x.searchAnew(0, 1, 2, false);
        due.same("the first of two", x.hitAt(0), 0);
        due.same("the last of two", x.hitAt(1), 6);
        due.range("behind it", () -> x.hitAt(2));
    }

    private static void firstAndLastScore() {
        HitHarbour x = manyHits();
        x.search(0, 0, 24, false);
        due.same("the first", x.scoreAt(0), 500);
        due.same("the last", x.scoreAt(23), 250);
        x.searchAnew(0, 0, 9, false);
        due.same("the last of nine", x.scoreAt(8), 400);
        due.range("behind it", () -> x.scoreAt(9));
    }

    private static void noHit(Harbours.Numbered call) {
        Harbours.range(Harbours.FRESH, "nothing was searched", x -> call.of(x, 0));
        for (int hit : new int[] {-1, 2, 23, 24, Integer.MIN_VALUE, Integer.MAX_VALUE}) {
            Harbours.range(Harbours.BUSY, "hit " + hit, x -> call.of(x, hit));
        }
        HitHarbour y = manyHits();
        y.search(0, 0, 24, false);
        due.range("one behind 24", () -> call.of(y, 24));
        y.search(0, 0, 0, false);
        due.range("none was kept", () -> call.of(y, 0));
    }

    private static void scoreOfEach() {
        HitHarbour x = manyHits();
        for (int document = 0; document < 24; document++) {
            due.same("document " + document, x.score(0, 0, document, false), new int[] {250, 400, 500}[document % 3]);
            due.same("by its segment, document " + document, x.score(0, 0, document, true),
                    new int[] {250, 400, 500}[document % 3]);
        }
    }

    private static void scoreThrows() {
        Snapshot.Maker empty = () -> {
            HitHarbour x = Harbours.OPENED.make();
            x.priced(0, 999);
            return x;
        };
        Harbours.element(empty, "there is no document", x -> x.score(0, 0, 0, false));
        for (int document : new int[] {-1, 6, 23, 24, 31, 32, Integer.MIN_VALUE, Integer.MAX_VALUE}) {
            Harbours.element(Harbours.BUSY, "document " + document, x -> x.score(0, 4, document, false));
            Harbours.element(Harbours.BUSY, "by local facts, document " + document, x -> x.score(0, 4, document, true));
        }
        Harbours.element(Harbours.BUSY, "it came behind the reader", x -> x.score(0, 1, 4, false));
        Harbours.element(Harbours.BUSY, "it does not match", x -> x.score(0, 0, 2, false));
        Harbours.element(Harbours.BUSY, "it is a child, not a parent", x -> x.score(0, 5, 1, true));
        HitHarbour x = Harbours.BUSY.make();
        due.same("it was deleted behind the reader", x.score(0, 0, 1, false) > 0, true);
        int s = reader(x);
        due.element("it was deleted ahead of the reader", () -> x.score(s, 0, 1, false));
        due.same("it is the last one", x.score(s, 0, 5, false) > 0, true);
        x.met(0, 0);
        due.element("the draft's document is none", () -> x.score(s, 4, 24, false));
    }

    private static void countNumber() {
        HitHarbour x = new HitHarbour();
        x.priced(0, 999);
        due.same("none", x.count(x.open(), 0, 0, false), 0);
        for (int number = 0; number < 24; number++) {
            x.add(5, 0, -1);
        }
        int r = reader(x);
        due.same("all", x.count(r, 0, 5, false), 24);
        due.same("of another colour", x.count(r, 0, 0, true), 0);
    }

    private static void countThrows() {
        for (int colour : NO_COLOURS) {
            Harbours.argument(Harbours.BUSY, "colour " + colour, x -> x.count(0, 6, colour, true));
            Harbours.argument(Harbours.BUSY, "none left out, colour " + colour, x -> x.count(0, 0, colour, false));
        }
        HitHarbour x = colours();
        due.same("the least", x.count(0, 5, 0, false), 2);
        due.same("the greatest", x.count(0, 5, 5, false), 2);
    }

    private static void havingNumber() {
        HitHarbour x = manyHits();
        due.same("all", x.having(0, 0), 24);
        due.same("some", x.having(0, 1), 4);
        due.same("none", x.having(0, 2), 0);
        HitHarbour y = Harbours.OPENED.make();
        y.priced(0, 999);
        due.same("of no documents", y.having(0, 0), 0);
    }

    private static void keepNumber() {
        HitHarbour x = new HitHarbour();
        x.coloured(0);
        x.coloured(1);
        for (int number = 1; number <= 8; number++) {
            due.same("the same one again", x.keep(1), number);
        }
        due.same("each of them is met", x.met(1, 0), 255);
    }

    private static void keepFull() {
        Harbours.state(Harbours.FULL, "a ninth", x -> x.keep(0));
        Harbours.state(Harbours.FULL, "the same again", x -> x.keep(19));
        Harbours.state(Harbours.busyWith(6, x -> x.keep(1)), "only stored ones are full", x -> x.keep(0));
    }

    private static void draftStays() {
        Harbours.unchanged(Harbours.BUSY, "meeting", x -> x.met(5, 999));
        Harbours.unchanged(Harbours.FULL, "meeting", x -> x.met(0, 0));
        HitHarbour x = new HitHarbour();
        x.term(1, 30);
        x.keep(0);
        x.draft(1, 30);
        due.same("met", x.met(0, 0), 1);
        due.same("met again", x.met(0, 0), 1);
        due.same("the words are there", x.draft(1, 30), 2);
        x.add(0, 0, -1);
        due.same("once", found(x, reader(x), 0), "0:400");
    }

    private static void sumsOfPowers() {
        HitHarbour x = new HitHarbour();
        for (int colour = 0; colour <= 5; colour++) {
            x.coloured(colour);
        }
        x.priced(7, 7);
        for (int query = 6; query >= 0; query--) {
            x.keep(query);
        }
        x.keep(3);
        due.same("the last but one", x.met(0, 0), 64);
        due.same("the first", x.met(5, 7), 1 + 2);
        due.same("the last, and one ahead", x.met(3, 0), 8 + 128);
        due.same("with the first", x.met(3, 7), 1 + 8 + 128);
        HitHarbour y = new HitHarbour();
        y.coloured(0);
        y.keep(0);
        due.same("nothing is met", y.met(1, 0), 0);
        due.same("the least sum", y.met(0, 0), 1);
    }

    private static void nothingIsLeftOfMeeting() {
        HitHarbour x = new HitHarbour();
        int[] words = {0, 1, 29, 30};
        for (int n = 0; n < words.length; n++) {
            x.term(0, words[n]);
            x.term(1, words[n]);
            x.keep(2 * n);
            x.keep(2 * n + 1);
        }
        draft(x, 0, words);
        draft(x, 1, words);
        due.same("all are met", x.met(5, 999), 255);
        x.add(0, 0, -1);
        due.same("then none", x.met(5, 999), 0);
        draft(x, 1, 30);
        due.same("then the last one", x.met(0, 0), 128);
    }

    private static void metThrows() {
        for (int colour : NO_COLOURS) {
            Harbours.argument(Harbours.BUSY, "colour " + colour, x -> x.met(colour, 0));
        }
        for (int price : new int[] {-1, 1000, Integer.MIN_VALUE, Integer.MAX_VALUE}) {
            Harbours.argument(Harbours.BUSY, "price " + price, x -> x.met(0, price));
            Harbours.argument(Harbours.FRESH, "of none, price " + price, x -> x.met(5, price));
        }
        HitHarbour x = new HitHarbour();
        due.same("the least", x.met(0, 0), 0);
        due.same("the greatest", x.met(5, 999), 0);
    }
}
