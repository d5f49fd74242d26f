/** Edges of readers and crashes: the terms' parts "Readers" and "Crashes" and promises 10 to 18. */
final class ReaderEdges extends Calls {
    private static final String NO_READER =
            "Throws `IndexOutOfBoundsException` if there is no such reader, or it was closed";

    private ReaderEdges() {
    }

    static void all(Edges edges) {
        readerTerms(edges);
        crashTerms(edges);
        keepingEdges(edges);
        tellingEdges(edges);
        readerEdges(edges);
    }

    private static void readerTerms(Edges edges) {
        edges.of(0, "At most 6 readers are numbered from 0, closed ones counted.", ReaderEdges::readerNumbers);
        String sees = "A reader sees segments, deletions and prices as they were at the latest refreshing ahead of its"
                + " opening.";
        edges.of(0, sees, ReaderEdges::seesNothingAtFirst);
        edges.of(0, sees, ReaderEdges::seesOneMoment);
        edges.of(0, "Its documents are those that were not deleted then, each in its segment.",
                ReaderEdges::documentsOfAReader);
    }

    private static void crashTerms(Edges edges) {
        String committing = "Committing refreshes, and keeps all; syncing keeps the operations since then.";
        edges.of(0, committing, ReaderEdges::committingKeepsAll);
        edges.of(0, committing, ReaderEdges::syncingKeepsOperations);
        String crashing = "A crash closes all readers, and brings back what was committed last, at first nothing; then"
                + " the operations that were synced behind it are done again, with documents as they were analysed,"
                + " without refreshing, and are still kept; numbers of documents that are lost are given again.";
        edges.of(0, crashing, ReaderEdges::crashClosesReaders);
        edges.of(0, crashing, ReaderEdges::crashAtFirst);
        edges.of(0, crashing, ReaderEdges::crashBringsBackTheLast);
        edges.of(0, crashing, ReaderEdges::crashDoesAgain);
        edges.of(0, crashing, ReaderEdges::crashUponCrash);
        edges.of(0, crashing, ReaderEdges::lostNumbers);
        edges.of(0, crashing, ReaderEdges::lostWords);
        edges.of(0, "What is told for words, the draft, queries, stored ones and hits stay.", ReaderEdges::crashLeaves);
    }

    private static void keepingEdges(Edges edges) {
        edges.of(10, "Returns the number of segments.", ReaderEdges::commitNumber);
        edges.of(11, "Returns how many operations behind the latest committing are kept.", ReaderEdges::syncNumber);
        edges.of(12, "Returns how many operations are lost.", ReaderEdges::crashNumber);
    }

    private static void tellingEdges(Edges edges) {
        edges.of(13, "Returns how many documents there are, those in the buffer too, those that were deleted not.",
                ReaderEdges::documentsNumber);
        edges.of(14, "Returns the number of segments.", ReaderEdges::segmentsNumber);
        edges.of(15, "- `segment`: the place of the segment, from 0", ReaderEdges::firstAndLastSegment);
        edges.of(15, "- `place`: the place in it, from 0, deleted ones counted as long as they are there",
                ReaderEdges::firstAndLastPlace);
        edges.of(15, "Throws `IndexOutOfBoundsException` if there is no such segment or place",
                ReaderEdges::segmentAtThrows);
    }

    private static void readerEdges(Edges edges) {
        edges.of(16, "Throws `IllegalStateException` if there were 6 readers", ReaderEdges::openFull);
        edges.of(17, "Returns how many are open.", ReaderEdges::closeNumber);
        edges.of(17, NO_READER, () -> Harbours.noReader((x, reader) -> x.close(reader)));
        edges.of(18, "Returns the number of documents.", ReaderEdges::seenNumber);
        edges.of(18, NO_READER, () -> Harbours.noReader((x, reader) -> x.seen(reader)));
    }

    private static void readerNumbers() {
        HitHarbour x = new HitHarbour();
        for (int number = 0; number < 6; number++) {
            due.same("the next number", x.open(), number);
            due.same("of which one is open", x.close(number), 0);
        }
        due.state("all are closed, none is left", () -> x.open());
    }

    private static void seesNothingAtFirst() {
        HitHarbour x = new HitHarbour();
        x.term(0, 1);
        put(x, 0, 0, 1);
        int r = x.open();
        due.same("no documents", x.seen(r), 0);
        due.same("no hits", found(x, r, 0), "");
        due.same("nothing to count", x.count(r, 0, 0, false), 0);
        due.element("nothing to score", () -> x.score(r, 0, 0, false));
        x.refresh();
        due.same("not behind refreshing either", x.seen(r), 0);
        due.same("but a reader behind that", x.seen(x.open()), 1);
    }

    private static void seesOneMoment() {
        HitHarbour x = new HitHarbour();
        put(x, 0, 5, 1);
        put(x, 0, 5, 1, 2);
        x.term(0, 1);
        x.priced(5, 5);
        int r = reader(x);
        String before = found(x, r, 0, true);
        due.same("two documents", before, "0:250 1:200");
        x.delete(0);
        x.setPrice(1, 6);
        put(x, 0, 5, 1);
        int s = x.open();
        due.same("a later one with no refreshing between", found(x, s, 0, true), before);
        due.same("its prices", x.having(s, 1), 2);
        x.commit();
        put(x, 0, 5, 1);
        x.refresh();
        due.same("the earlier ones see what they saw", found(x, r, 0, true) + found(x, s, 0, true), before + before);
        due.same("their prices too", x.having(r, 1), 2);
        x.close(s);
        due.same("whatever is closed", found(x, r, 0, true), before);
        due.same("the latest refreshing", found(x, x.open(), 0), "2:250 3:250 1:200");
    }

    private static void documentsOfAReader() {
        HitHarbour x = new HitHarbour();
        put(x, 0, 0, 1);
        put(x, 0, 0, 1);
        x.refresh();
        put(x, 0, 0, 1);
        x.delete(0);
        x.term(0, 1);
        int r = reader(x);
        due.same("without the one that was deleted", x.seen(r), 2);
        due.same("which is still in its segment", segments(x), "0 1|2");
        due.element("but has no score", () -> x.score(r, 0, 0, true));
        due.same("each in its segment", found(x, r, 0, true), "1:250 2:250");
        put(x, 0, 0, 1);
        x.refresh();
        due.same("segments merge behind it", segments(x), "1 2 3");
        due.same("and not for it", found(x, r, 0, true), "1:250 2:250");
        due.same("but for another one", found(x, x.open(), 0, true), "1:250 2:250 3:250");
        put(x, 0, 0, 2);
        due.same("facts of one segment", found(x, reader(x), 0, true), "1:250 2:250 3:250");
        due.same("facts of two segments", found(x, 2, 0, false), "1:312 2:312 3:312");
    }

    private static void committingKeepsAll() {
        HitHarbour x = new HitHarbour();
        put(x, 1, 7, 1);
        put(x, 2, 8, 2);
        child(x, 0, 3);
        x.delete(1);
        x.setPrice(0, 9);
        due.same("refreshes", x.commit(), 1);
        due.same("the buffer too", segments(x), "0 2");
        due.same("nothing is lost", x.crash(), 0);
        due.same("documents and segments are there", segments(x) + " of " + x.documents(), "0 2 of 2");
        x.term(0, 1);
        x.term(0, 3);
        x.parents(1);
        x.coloured(1);
        x.priced(9, 9);
        int r = x.open();
        due.same("a reader needs no refreshing", x.seen(r), 2);
        due.same("words", found(x, r, 0), "0:375");
        due.same("parents", found(x, r, 2), "0:375");
        due.same("colours", found(x, r, 3), "0:0");
        due.same("prices", found(x, r, 4), "0:0");
    }

    private static void syncingKeepsOperations() {
        HitHarbour x = new HitHarbour();
        x.add(0, 1, -1);
        x.add(0, 2, -1);
        due.same("adding", x.sync(), 2);
        x.setPrice(0, 3);
        due.same("pricing", x.sync(), 3);
        x.delete(1);
        due.same("deleting", x.sync(), 4);
        due.same("no refreshing", x.segments(), 0);
        x.refresh();
        due.same("refreshing is no operation", x.sync(), 4);
        due.same("nothing is lost", x.crash(), 0);
        due.same("but the refreshing", x.segments(), 0);
        due.same("the document", x.documents(), 1);
        due.same("its price", x.setPrice(0, 0), 3);
        due.element("the other one was deleted", () -> x.setPrice(1, 0));
    }

    private static void crashClosesReaders() {
        HitHarbour x = new HitHarbour();
        x.commit();
        for (int reader = 0; reader < 4; reader++) {
            x.open();
        }
        x.close(2);
        x.crash();
        for (int n = 0; n < 4; n++) {
            int reader = n;
            due.range("reader " + reader, () -> x.seen(reader));
            due.range("it can't be closed again", () -> x.close(reader));
        }
        due.same("numbers go on", x.open(), 4);
        due.same("one is open", x.close(4), 0);
    }

    private static void crashAtFirst() {
        HitHarbour x = new HitHarbour();
        put(x, 0, 0, 1);
        x.refresh();
        x.setPrice(0, 5);
        due.same("all is lost", x.crash(), 2);
        due.same("no documents", x.documents(), 0);
        due.same("no segments", x.segments(), 0);
        due.same("nothing is seen", x.seen(x.open()), 0);
        due.same("nothing is kept", x.sync(), 0);
        due.arithmetic("there is no share", () -> x.deletedShare());
        due.same("the first number", x.add(0, 0, -1), 0);
        HitHarbour y = new HitHarbour();
        due.same("where there was nothing", y.crash(), 0);
        due.same("there is nothing", y.documents() + y.segments(), 0);
    }

    private static void crashBringsBackTheLast() {
        HitHarbour x = new HitHarbour();
        put(x, 0, 1);
        x.commit();
        put(x, 0, 2);
        x.setPrice(0, 5);
        x.commit();
        x.delete(0);
        put(x, 0, 3);
        x.refresh();
        due.same("segments that were refreshed", segments(x), "1|2");
        due.same("two are lost", x.crash(), 2);
        due.same("those of the last committing", segments(x), "0|1");
        due.same("what was deleted is there", x.documents(), 2);
        due.same("with the price of the last one", x.setPrice(0, 6), 5);
        x.refresh();
        put(x, 0, 3);
        due.same("segments merge as ever", x.refresh(), 1);
    }

    private static void crashDoesAgain() {
        HitHarbour x = new HitHarbour();
        x.fold(1, 2);
        put(x, 0, 0, 1);
        x.commit();
        x.joinTo(2, 3);
        put(x, 4, 8, 1);
        child(x, 0, 2);
        x.setPrice(0, 9);
        x.refresh();
        due.same("three operations", x.sync(), 3);
        x.fold(1, 5);
        x.joinTo(2, -1);
        x.setStop(2, true);
        put(x, 0, 0, 1);
        due.same("one is lost", x.crash(), 1);
        due.same("without refreshing", segments(x), "0");
        due.same("those in the buffer are there", x.documents(), 3);
        x.term(0, 2);
        x.term(0, 3);
        x.term(0, 5);
        x.parents(1);
        x.priced(9, 9);
        x.coloured(4);
        int r = x.open();
        due.same("a reader sees what was committed", x.seen(r), 1);
        due.same("with its price", x.having(r, 4), 0);
        int s = reader(x);
        due.same("as it was analysed", found(x, s, 0), "0:250 1:200 2:200");
        due.same("with those that joined", found(x, s, 1), "1:266 2:266");
        due.same("not as words are now", found(x, s, 2), "");
        due.same("the parent", found(x, s, 3), "0:266");
        due.same("the price", found(x, s, 4), "0:0");
        due.same("the colour", found(x, s, 5), "1:0");
    }

    private static void crashUponCrash() {
        HitHarbour x = new HitHarbour();
        x.add(0, 0, -1);
        x.commit();
        x.add(0, 0, -1);
        x.sync();
        for (int time = 0; time < 3; time++) {
            x.add(0, 0, -1);
            x.delete(0);
            due.same("two are lost each time", x.crash(), 2);
            due.same("one is still kept", x.sync(), 1);
            due.same("two documents", x.documents(), 2);
        }
        due.same("nothing more", x.crash(), 0);
        x.refresh();
        due.same("still", x.crash(), 0);
        due.same("and not refreshed", x.segments(), 1);
        x.commit();
        due.same("committed", x.crash(), 0);
        due.same("it is refreshed", x.segments(), 2);
        due.same("then none is behind", x.sync(), 0);
    }

    private static void lostNumbers() {
        HitHarbour x = new HitHarbour();
        put(x, 0, 0, 1);
        x.commit();
        put(x, 0, 0, 1);
        x.sync();
        child(x, 1, 1, 2);
        put(x, 0, 0, 1);
        x.term(0, 1);
        x.term(0, 2);
        x.parents(0);
        int r = reader(x);
        due.same("ahead of the crash", x.having(r, 0), 4);
        x.crash();
        due.same("numbers from the first that was lost", put(x, 3, 0, 2), 2);
        due.same("and on", put(x, 3, 0, 3), 3);
        int s = reader(x);
        due.same("nothing of those that were lost", found(x, s, 0), "0:416 1:416");
        due.same("but what came", found(x, s, 1), "2:625");
        due.same("with no parent", found(x, s, 2), "");
        x.delete(0);
        x.sync();
        x.crash();
        due.same("a deleted number is not given again", put(x, 0, 0), 4);
    }

    private static void lostWords() {
        HitHarbour x = new HitHarbour();
        for (int field = 0; field <= 1; field++) {
            for (int word : new int[] {0, 1, 29, 30}) {
                x.draft(field, word);
                x.term(field, word);
            }
        }
        x.phrase(0, 0, 30, 1, 9, false);
        x.add(5, 999, -1);
        int r = reader(x);
        for (int query = 0; query < 9; query++) {
            due.same("ahead of the crash, query " + query, x.having(r, query), 1);
        }
        x.crash();
        draft(x, 0, 7);
        due.same("the number is given again", x.add(0, 0, -1), 0);
        int s = reader(x);
        for (int query = 0; query < 9; query++) {
            due.same("behind it, query " + query, found(x, s, query), "");
        }
        x.term(0, 7);
        due.same("but for its own word, in a field of one", found(x, s, 9), "0:250");
        x.coloured(5);
        x.priced(999, 999);
        due.same("of another colour and price", x.having(s, 10) + x.having(s, 11), 0);
    }

    private static void crashLeaves() {
        HitHarbour x = new HitHarbour();
        x.fold(0, 30);
        x.setStop(29, true);
        x.joinTo(30, 1);
        put(x, 0, 0, 0);
        x.term(0, 30);
        x.keep(0);
        x.search(reader(x), 0, 24, false);
        draft(x, 1, 5, 6);
        x.draft(0, 0);
        x.crash();
        due.same("hits", hits(x) + " " + x.meanScore(), "0:200 200.0");
        due.same("stored queries and the draft", x.met(0, 0), 1);
        due.same("the draft's field 0", x.draft(0, 29), 2);
        due.same("the draft's field 1", x.draft(1, 7), 3);
        due.same("it is analysed as words are told", x.add(0, 0, -1), 0);
        due.same("queries", found(x, reader(x), 0), "0:200");
        due.same("the next query", x.term(1, 6), 1);
        due.same("is numbered on", found(x, 1, 1), "0:166");
        due.same("folding", x.fold(0, 0), 30);
        due.same("stop words", x.setStop(29, false), true);
        due.same("joining", x.joinTo(30, -1), 1);
        due.same("stored ones are counted on", x.keep(0), 2);
    }

    private static void commitNumber() {
        HitHarbour x = new HitHarbour();
        due.same("nothing at all", x.commit(), 0);
        int[] numbers = {8, 4, 4, 2, 2, 1, 1};
        for (int n = 0; n < numbers.length; n++) {
            putMany(x, numbers[n]);
            due.same("as many as there can be", x.commit(), n + 1);
        }
        x.crash();
        due.same("all are there", x.segments(), 7);
        for (int document = 0; document < 22; document++) {
            x.delete(document);
        }
        due.same("none again", x.commit(), 0);
        x.crash();
        due.same("and none is there", x.segments() + x.documents(), 0);
    }

    private static void syncNumber() {
        HitHarbour x = new HitHarbour();
        due.same("none", x.sync(), 0);
        x.refresh();
        x.draft(0, 1);
        due.same("no operation", x.sync(), 0);
        x.add(0, 0, -1);
        due.same("one", x.sync(), 1);
        due.same("one still", x.sync(), 1);
        x.commit();
        due.same("committed", x.sync(), 0);
        for (int number = 1; number <= 300; number++) {
            x.setPrice(0, number);
        }
        due.same("many", x.sync(), 300);
        due.element("what is refused is no operation", () -> x.delete(1));
        due.same("many still", x.sync(), 300);
        x.commit();
        x.delete(0);
        due.same("one behind the latest", x.sync(), 1);
    }

    private static void crashNumber() {
        HitHarbour x = new HitHarbour();
        due.same("none", x.crash(), 0);
        x.add(0, 0, -1);
        due.same("all", x.crash(), 1);
        due.same("none is left to lose", x.crash(), 0);
        x.add(0, 0, -1);
        x.commit();
        x.setPrice(0, 1);
        x.sync();
        x.setPrice(0, 2);
        x.setPrice(0, 3);
        x.refresh();
        due.same("those that were not synced, refreshed or not", x.crash(), 2);
        x.setPrice(0, 4);
        x.sync();
        due.same("all were synced", x.crash(), 0);
        x.setPrice(0, 5);
        x.commit();
        due.same("all were committed", x.crash(), 0);
    }

    private static void documentsNumber() {
        HitHarbour x = new HitHarbour();
        due.same("none", x.documents(), 0);
        for (int number = 1; number <= 24; number++) {
            x.add(0, 0, -1);
            due.same("those in the buffer too", x.documents(), number);
            if (number == 20) {
                x.refresh();
            }
        }
        for (int document = 0; document < 24; document++) {
            x.delete(document);
            due.same("those that were deleted not", x.documents(), 23 - document);
        }
    }

    private static void segmentsNumber() {
        HitHarbour x = new HitHarbour();
        due.same("none", x.segments(), 0);
        putMany(x, 1);
        due.same("the buffer is none", x.segments(), 0);
        x.refresh();
        due.same("one", x.segments(), 1);
        x.delete(0);
        due.same("an empty one is there till refreshing", x.segments(), 1);
        x.refresh();
        due.same("none again", x.segments(), 0);
    }

    private static void firstAndLastSegment() {
        HitHarbour x = new HitHarbour();
        due.range("none is the first", () -> x.segmentAt(0, 0));
        putMany(x, 4);
        x.refresh();
        due.same("the first and the last", x.segmentAt(0, 0), 0);
        due.range("behind it", () -> x.segmentAt(1, 0));
        putMany(x, 2);
        x.refresh();
        putMany(x, 1);
        x.refresh();
        due.same("the first", x.segmentAt(0, 0), 0);
        due.same("the last", x.segmentAt(2, 0), 6);
        due.range("behind the last", () -> x.segmentAt(3, 0));
        due.range("ahead of the first", () -> x.segmentAt(-1, 0));
    }

    private static void firstAndLastPlace() {
        HitHarbour x = new HitHarbour();
        putMany(x, 24);
        x.refresh();
        due.same("the first", x.segmentAt(0, 0), 0);
        due.same("the last", x.segmentAt(0, 23), 23);
        due.range("behind the last", () -> x.segmentAt(0, 24));
        x.delete(0);
        x.delete(23);
        due.same("a deleted one is counted", x.segmentAt(0, 0), 0);
        x.refresh();
        due.same("refreshed too", x.segmentAt(0, 23), 23);
        HitHarbour y = new HitHarbour();
        putMany(y, 2);
        y.refresh();
        putMany(y, 3);
        y.refresh();
        y.delete(1);
        y.delete(2);
        putMany(y, 1);
        y.refresh();
        due.same("as long as nothing is merged", segments(y), "0 1|2 3 4|5");
        putMany(y, 1);
        y.refresh();
        due.same("till the segment is merged", segments(y), "0 5 6|2 3 4");
    }

    private static void segmentAtThrows() {
        int[] none = {-1, 3, 24, 25, Integer.MIN_VALUE, Integer.MAX_VALUE};
        for (int number : none) {
            Harbours.range(Harbours.BUSY, "segment " + number, x -> x.segmentAt(number, 0));
            Harbours.range(Harbours.BUSY, "place " + number, x -> x.segmentAt(0, number));
            Harbours.range(Harbours.FRESH, "of none, segment " + number, x -> x.segmentAt(number, number));
        }
        Harbours.range(Harbours.BUSY, "one behind the last segment", x -> x.segmentAt(2, 0));
        Harbours.range(Harbours.BUSY, "one behind the last place", x -> x.segmentAt(1, 1));
        Harbours.range(Harbours.FULL, "32 behind a place", x -> x.segmentAt(0, 32));
        Harbours.range(Harbours.FRESH, "none is there", x -> x.segmentAt(0, 0));
    }

    private static void openFull() {
        Harbours.state(Harbours.FULL, "a reader more", x -> x.open());
        Harbours.state(Harbours.busyWith(4, x -> x.open()), "only readers are full", x -> x.open());
        HitHarbour x = new HitHarbour();
        for (int number = 0; number < 5; number++) {
            x.open();
        }
        due.same("the sixth", x.open(), 5);
        due.state("there were 6", () -> x.open());
        x.close(5);
        due.state("one was closed", () -> x.open());
        x.crash();
        due.state("all were closed", () -> x.open());
        due.range("there is no seventh", () -> x.seen(6));
    }

    private static void closeNumber() {
        HitHarbour x = new HitHarbour();
        for (int number = 0; number < 6; number++) {
            x.open();
        }
        int[] order = {3, 0, 5, 1, 4, 2};
        for (int n = 0; n < order.length; n++) {
            due.same("one less", x.close(order[n]), 5 - n);
        }
    }

    private static void seenNumber() {
        HitHarbour x = new HitHarbour();
        due.same("none", x.seen(x.open()), 0);
        putMany(x, 24);
        due.same("all", x.seen(reader(x)), 24);
        for (int document = 0; document < 24; document++) {
            x.delete(document);
        }
        due.same("none again", x.seen(reader(x)), 0);
        due.same("and all for the one ahead", x.seen(1), 24);
    }
}
