/** For each promise: ordinary inputs, the edges that the document names, and wrong inputs. */
public final class PromiseTest extends Calls {
    private PromiseTest() {
    }

    public static void main(String[] args) {
        newObject();
        foldPromise();
        stopPromise();
        joinPromise();
        draftPromise();
        addPromise();
        deletePromise();
        pricePromise();
        refreshPromise();
        mergePromise();
        mergeOrderPromise();
        mergeMany();
        commitPromise();
        syncPromise();
        crashPromise();
        crashStays();
        documentsPromise();
        segmentAtPromise();
        openPromise();
        closePromise();
        seenPromise();
        termPromise();
        phrasePromise();
        phraseOfThree();
        phraseOften();
        pricedPromise();
        colouredPromise();
        boostedPromise();
        parentsPromise();
        clausePromise();
        setPromise();
        setMatching();
        searchPromise(false);
        searchPromise(true);
        localFacts();
        hitsPromise();
        scorePromise();
        countPromise();
        havingPromise();
        keepPromise();
        metPromise();
        operationsPromise();
        sharePromise();
        meanPromise();
        soundPromise();
        queryRoom();
        due.end();
    }

    private static void newObject() {
        HitHarbour x = new HitHarbour();
        due.same("1: documents", x.documents(), 0);
        due.same("1: segments", x.segments(), 0);
        due.same("1: hits", x.hits(), 0);
        due.same("1: operations", x.operations(), 0L);
        due.range("1: no reader", () -> x.seen(0));
        due.range("1: no query", () -> x.keep(0));
        due.range("1: no segment", () -> x.segmentAt(0, 0));
        due.same("1: sync", x.sync(), 0);
        due.same("1: crash", x.crash(), 0);
        due.same("1: refresh", x.refresh(), 0);
        due.same("1: commit", x.commit(), 0);
        due.same("1: met", x.met(0, 0), 0);
        due.same("1: isSound", x.isSound(), true);
        due.same("1: the first reader", x.open(), 0);
        due.same("1: it sees nothing", x.seen(0), 0);
    }

    private static void foldPromise() {
        HitHarbour x = new HitHarbour();
        due.argument("2: word -1", () -> x.fold(-1, 0));
        due.argument("2: word 31", () -> x.fold(31, 0));
        due.argument("2: to -1", () -> x.fold(0, -1));
        due.argument("2: to 31", () -> x.fold(0, 31));
        due.same("2: first", x.fold(30, 4), 30);
        due.same("2: again", x.fold(30, 5), 4);
        due.same("2: chain", x.fold(5, 6), 5);
        put(x, 0, 0, 30);
        due.same("2: none", x.fold(30, 30), 5);
        put(x, 0, 0, 30);
        x.term(0, 5);
        x.term(0, 6);
        x.term(0, 30);
        int r = reader(x);
        x.search(r, 0, 24, false);
        due.same("2: folded once, later telling has no effect", hits(x), "0:375");
        due.same("2: not folded twice", x.having(r, 1), 0);
        x.search(r, 2, 24, false);
        due.same("2: folded no more", hits(x), "1:375");
    }

    private static void stopPromise() {
        HitHarbour x = new HitHarbour();
        due.argument("3: word -1", () -> x.setStop(-1, true));
        due.argument("3: word 31", () -> x.setStop(31, true));
        due.same("3: was not", x.setStop(30, true), false);
        due.same("3: was", x.setStop(30, true), true);
        due.same("3: other", x.setStop(0, false), false);
        x.fold(7, 30);
        x.joinTo(30, 8);
        put(x, 0, 0, 30, 7, 1);
        due.same("3: was, till now", x.setStop(30, false), true);
        put(x, 0, 0, 30);
        x.term(0, 30);
        x.term(0, 8);
        x.term(0, 1);
        x.phrase(0, 8, 1, -1, 9, false);
        int r = reader(x);
        due.same("3: dropped behind folding", x.having(r, 0), 1);
        due.same("3: nothing joins what is dropped", x.having(r, 1), 1);
        x.search(r, 2, 24, false);
        due.same("3: the length is without dropped ones", hits(x), "0:375");
        due.same("3: no phrase with one dropped", x.having(r, 3), 0);
    }

    private static void joinPromise() {
        HitHarbour x = new HitHarbour();
        due.argument("4: word -1", () -> x.joinTo(-1, 0));
        due.argument("4: both -1", () -> x.joinTo(-1, -1));
        due.argument("4: word 31", () -> x.joinTo(31, 0));
        due.argument("4: other -2", () -> x.joinTo(0, -2));
        due.argument("4: other 31", () -> x.joinTo(0, 31));
        due.argument("4: the same", () -> x.joinTo(9, 9));
        due.same("4: none", x.joinTo(1, 30), -1);
        due.same("4: one", x.joinTo(1, 2), 30);
        x.fold(2, 20);
        x.setStop(2, true);
        x.joinTo(2, 21);
        x.fold(7, 1);
        x.joinTo(7, 22);
        put(x, 0, 0, 7, 3);
        due.same("4: ended", x.joinTo(1, -1), 2);
        due.same("4: ended again", x.joinTo(1, -1), -1);
        x.term(0, 2);
        x.term(0, 20);
        x.term(0, 21);
        x.term(0, 22);
        x.phrase(0, 2, 3, -1, 0, true);
        x.phrase(0, 1, 2, -1, 9, false);
        int r = reader(x);
        x.search(r, 0, 24, false);
        due.same("4: joined as it is, counted in the length", hits(x), "0:166");
        due.same("4: not folded", x.having(r, 1), 0);
        due.same("4: nothing joins what joins", x.having(r, 2), 0);
        due.same("4: what it was folded from is joined by nothing", x.having(r, 3), 0);
        due.same("4: in its place", x.having(r, 4), 1);
        due.same("4: one position is not two", x.having(r, 5), 0);
    }

    private static void draftPromise() {
        HitHarbour x = new HitHarbour();
        due.range("5: field -1", () -> x.draft(-1, 99));
        due.range("5: field 2", () -> x.draft(2, 0));
        due.argument("5: word -1", () -> x.draft(0, -1));
        due.argument("5: word 31", () -> x.draft(1, 31));
        for (int n = 1; n <= 10; n++) {
            due.same("5: number of words", x.draft(1, 30), n);
        }
        due.state("5: full", () -> x.draft(1, 0));
        due.argument("5: a wrong word ahead of full", () -> x.draft(1, 31));
        due.same("5: the other field", x.draft(0, 0), 1);
        x.add(0, 0, -1);
        due.same("5: empty behind add", x.draft(1, 0), 1);
        due.same("5: both", x.draft(0, 0), 1);
        x.term(1, 30);
        int r = reader(x);
        x.search(r, 0, 24, false);
        due.same("5: ten of them", hits(x), "0:769");
    }

    private static void addPromise() {
        HitHarbour x = new HitHarbour();
        due.argument("6: colour -1", () -> x.add(-1, 0, -1));
        due.argument("6: colour 6", () -> x.add(6, 0, 5));
        due.argument("6: price -1", () -> x.add(0, -1, -1));
        due.argument("6: price 1000", () -> x.add(0, 1000, 5));
        due.element("6: parent 0", () -> x.add(0, 0, 0));
        due.element("6: parent -2", () -> x.add(0, 0, -2));
        due.element("6: parent 24", () -> x.add(0, 0, 24));
        due.element("6: parent 32", () -> x.add(0, 0, 32));
        due.same("6: nothing was told", x.operations(), 0L);
        x.draft(0, 3);
        due.argument("6: the draft stays", () -> x.add(6, 0, -1));
        due.same("6: number", x.add(5, 999, -1), 0);
        due.same("6: child", x.add(0, 0, 0), 1);
        due.element("6: a parent with a parent", () -> x.add(0, 0, 1));
        x.delete(0);
        due.element("6: a parent that was deleted", () -> x.add(0, 0, 0));
        for (int n = 2; n < 24; n++) {
            due.same("6: numbers", x.add(0, 0, -1), n);
        }
        due.state("6: 24 documents", () -> x.add(0, 0, -1));
        due.state("6: 24 documents, with a parent", () -> x.add(0, 0, 23));
        due.element("6: no such parent goes ahead", () -> x.add(0, 0, 0));
        due.argument("6: no such colour goes ahead", () -> x.add(6, 0, -1));
        x.draft(0, 1);
        due.state("6: full, the draft stays", () -> x.add(0, 0, -1));
        due.same("6: the draft stayed", x.draft(0, 1), 2);
        due.same("6: documents", x.documents(), 22);
    }

    private static void deletePromise() {
        HitHarbour x = new HitHarbour();
        put(x, 0, 0, 1);
        child(x, 0, 2);
        child(x, 0, 3);
        put(x, 0, 0, 4);
        child(x, 3, 5);
        due.element("7: -1", () -> x.delete(-1));
        due.element("7: 5", () -> x.delete(5));
        due.element("7: 24", () -> x.delete(24));
        due.element("7: 32", () -> x.delete(32));
        due.same("7: a child", x.delete(1), 1);
        due.element("7: again", () -> x.delete(1));
        due.same("7: a parent and the child that is left", x.delete(0), 2);
        due.element("7: the child", () -> x.delete(2));
        due.same("7: documents", x.documents(), 2);
        due.same("7: one operation each", x.operations(), 7L);
        int r = reader(x);
        due.same("7: those of the buffer never come", segments(x), "3 4");
        x.delete(3);
        due.same("7: an old reader has them", x.seen(r), 2);
        due.same("7: a reader ahead of refreshing too", x.seen(x.open()), 2);
        due.same("7: segments stay till then", segments(x), "3 4");
        due.same("7: behind it not", x.seen(reader(x)), 0);
    }

    private static void pricePromise() {
        HitHarbour x = new HitHarbour();
        put(x, 0, 7);
        put(x, 0, 8);
        x.delete(1);
        due.element("8: -1", () -> x.setPrice(-1, 5));
        due.element("8: none, ahead of the price", () -> x.setPrice(2, 1000));
        due.element("8: deleted", () -> x.setPrice(1, 5));
        due.argument("8: price -1", () -> x.setPrice(0, -1));
        due.argument("8: price 1000", () -> x.setPrice(0, 1000));
        due.same("8: before", x.setPrice(0, 999), 7);
        due.same("8: before again", x.setPrice(0, 0), 999);
        x.priced(0, 0);
        x.priced(5, 5);
        int r = reader(x);
        due.same("8: read", x.having(r, 0), 1);
        due.same("8: told at once", x.setPrice(0, 5), 0);
        due.same("8: the old one is read", x.having(r, 0), 1);
        int early = x.open();
        due.same("8: not refreshed", x.having(early, 0), 1);
        due.same("8: not refreshed to the new one", x.having(early, 1), 0);
        int late = reader(x);
        due.same("8: refreshed", x.having(late, 1), 1);
        due.same("8: the old reader sees one moment", x.having(r, 1), 0);
        due.same("8: operations", x.operations(), 6L);
    }

    private static void refreshPromise() {
        HitHarbour x = new HitHarbour();
        due.same("9: nothing", x.refresh(), 0);
        put(x, 0, 0);
        x.delete(0);
        due.same("9: deleted in the buffer", x.refresh(), 0);
        put(x, 0, 0);
        put(x, 0, 0);
        put(x, 0, 0);
        x.delete(2);
        due.same("9: one", x.refresh(), 1);
        due.same("9: without the deleted one", segments(x), "1 3");
        due.same("9: again", x.refresh(), 1);
        put(x, 0, 0);
        due.same("9: two", x.refresh(), 2);
        due.same("9: behind", segments(x), "1 3|4");
        x.delete(1);
        x.delete(3);
        due.same("9: one goes", x.refresh(), 1);
        due.same("9: the other stays", segments(x), "4");
        x.delete(4);
        due.same("9: all go", x.refresh(), 0);
    }

    private static void mergePromise() {
        HitHarbour x = new HitHarbour();
        put(x, 0, 0);
        x.refresh();
        put(x, 0, 0);
        x.refresh();
        due.same("9: two of a tier stay", segments(x), "0|1");
        put(x, 0, 0);
        due.same("9: three become one", x.refresh(), 1);
        due.same("9: by rising numbers", segments(x), "0 1 2");
        put(x, 0, 0);
        put(x, 0, 0);
        due.same("9: two and three are one tier", x.refresh(), 2);
        put(x, 0, 0);
        put(x, 0, 0);
        put(x, 0, 0);
        put(x, 0, 0);
        due.same("9: four are another", x.refresh(), 3);
        put(x, 0, 0);
        put(x, 0, 0);
        due.same("9: the first three of tier 2 become one of tier 3", x.refresh(), 2);
        due.same("9: in the place of the first", segments(x), "0 1 2 3 4 9 10|5 6 7 8");
        x.delete(0);
        x.delete(1);
        x.delete(2);
        x.delete(3);
        x.delete(5);
        x.delete(6);
        put(x, 0, 0);
        put(x, 0, 0);
        due.same("9: tiers are by what was not deleted", x.refresh(), 1);
        due.same("9: without deleted ones", segments(x), "4 7 8 9 10 11 12");
    }

    private static void mergeOrderPromise() {
        HitHarbour x = new HitHarbour();
        put(x, 0, 0);
        put(x, 0, 0);
        x.refresh();
        put(x, 0, 0);
        x.refresh();
        put(x, 0, 0);
        put(x, 0, 0);
        x.refresh();
        put(x, 0, 0);
        due.same("9: tiers 2 1 2 1", x.refresh(), 4);
        put(x, 0, 0);
        due.same("9: the lowest tier first, then the next", x.refresh(), 1);
        due.same("9: all", segments(x), "0 1 2 3 4 5 6");
        HitHarbour y = new HitHarbour();
        for (int group = 0; group < 4; group++) {
            put(y, 0, 0);
            put(y, 0, 0);
            if (group < 2) {
                y.refresh();
            }
            put(y, 0, 0);
            put(y, 0, 0);
            if (group < 2) {
                y.refresh();
            }
        }
        due.same("9: cascades", segments(y), "0 1 2 3 4 5|6 7");
        due.same("9: a segment of eight", y.refresh(), 3);
        for (int document = 9; document < 16; document++) {
            y.delete(document);
        }
        y.delete(6);
        put(y, 0, 0);
        due.same("9: shrunk ones merge", y.refresh(), 2);
        due.same("9: from the place of the first of them", segments(y), "0 1 2 3 4 5|7 8 16");
        put(y, 0, 0);
        y.refresh();
        put(y, 0, 0);
        due.same("9: four segments", y.refresh(), 4);
        put(y, 0, 0);
        due.same("9: three ones merge", y.refresh(), 3);
        due.same("9: behind the others", segments(y), "0 1 2 3 4 5|7 8 16|17 18 19");
    }

    private static void mergeMany() {
        HitHarbour x = new HitHarbour();
        for (int document = 0; document < 6; document++) {
            put(x, 0, 0);
            if (document != 0 && document != 2) {
                x.refresh();
            }
        }
        due.same("9: tiers 2 2 1 1", segments(x), "0 1|2 3|4|5");
        x.delete(0);
        x.delete(3);
        due.same("9: of four of a tier the first three", x.refresh(), 2);
        due.same("9: the fourth stays", segments(x), "1 2 4|5");
        HitHarbour y = new HitHarbour();
        for (int document = 0; document < 24; document++) {
            put(y, 0, 0);
            if (document == 7 || document == 15) {
                y.refresh();
            }
        }
        due.same("9: two of eight", y.segments(), 2);
        due.same("9: three of eight", y.refresh(), 1);
        due.same("9: all 24", y.segmentAt(0, 23), 23);
        HitHarbour z = new HitHarbour();
        int[] ends = {6, 14};
        for (int document = 0; document < 23; document++) {
            put(z, 0, 0);
            if (document == ends[0] || document == ends[1]) {
                z.refresh();
            }
        }
        due.same("9: seven and two of eight", z.refresh(), 3);
        z.delete(7);
        z.delete(15);
        due.same("9: three of seven", z.refresh(), 1);
    }

    private static void commitPromise() {
        HitHarbour x = new HitHarbour();
        put(x, 0, 3, 1);
        put(x, 0, 4, 2);
        due.same("10: commits", x.commit(), 1);
        due.same("10: refreshes", segments(x), "0 1");
        x.delete(0);
        x.setPrice(1, 9);
        due.same("10: again", x.commit(), 1);
        due.same("10: nothing is lost", x.crash(), 0);
        due.same("10: nothing is behind", x.sync(), 0);
        due.same("10: documents", x.documents(), 1);
        x.priced(9, 9);
        int r = x.open();
        due.same("10: a deletion is kept", x.seen(r), 1);
        due.same("10: a price is kept", x.having(r, 0), 1);
        due.element("10: it was deleted", () -> x.delete(0));
        put(x, 0, 0);
        x.refresh();
        due.same("10: two", x.segments(), 2);
        x.crash();
        due.same("10: what was refreshed only is gone", segments(x), "0 1");
        due.same("10: the number is given again", put(x, 0, 0), 2);
        due.same("10: committed with the buffer", x.commit(), 2);
        x.crash();
        due.same("10: and is there", segments(x), "0 1|2");
    }

    private static void syncPromise() {
        HitHarbour x = new HitHarbour();
        put(x, 0, 0);
        put(x, 0, 0);
        due.same("11: two", x.sync(), 2);
        x.setPrice(0, 1);
        due.same("11: three", x.sync(), 3);
        due.same("11: three again", x.sync(), 3);
        x.delete(0);
        due.same("11: one is lost", x.crash(), 1);
        due.same("11: three are still kept", x.sync(), 3);
        due.same("11: it is there again", x.delete(0), 1);
        due.same("11: four", x.sync(), 4);
        due.same("11: sync does not refresh", x.segments(), 0);
        x.commit();
        due.same("11: committed", x.sync(), 0);
        due.element("11: and deleted", () -> x.delete(0));
        x.setPrice(1, 2);
        due.same("11: one behind it", x.sync(), 1);
        x.setPrice(1, 3);
        x.commit();
        due.same("11: all is committed", x.crash(), 0);
        x.setPrice(1, 4);
        due.same("11: one behind the latest", x.crash(), 1);
        due.same("11: and the price is that", x.setPrice(1, 5), 3);
    }

    private static void crashPromise() {
        HitHarbour x = new HitHarbour();
        put(x, 0, 10, 1);
        child(x, 0, 2);
        x.commit();
        put(x, 1, 20, 3);
        x.setPrice(0, 11);
        x.delete(1);
        x.sync();
        put(x, 2, 30, 4);
        x.delete(2);
        int r = reader(x);
        due.same("12: refreshed", x.seen(r), 2);
        due.same("12: lost", x.crash(), 2);
        due.range("12: readers are closed", () -> x.seen(r));
        due.same("12: documents", x.documents(), 2);
        due.same("12: as it was committed", segments(x), "0 1");
        x.priced(11, 11);
        x.priced(10, 10);
        int s = x.open();
        due.same("12: done again without refreshing", x.seen(s), 2);
        due.same("12: nor is the price there", x.having(s, 0), 0);
        due.same("12: but the old one", x.having(s, 1), 1);
        int t = reader(x);
        due.same("12: then it is", segments(x), "0 1|2");
        due.same("12: and seen", x.seen(t), 2);
        due.same("12: the price", x.having(t, 0), 1);
        due.same("12: lost again", x.crash(), 0);
        due.element("12: lost numbers", () -> x.setPrice(3, 0));
        x.term(0, 4);
        x.term(0, 7);
        due.same("12: are given again", put(x, 5, 0, 7), 3);
        int u = reader(x);
        due.same("12: with what they are now", x.having(u, 2), 0);
        due.same("12: and nothing else", x.having(u, 3), 1);
        x.search(u, 3, 24, false);
        due.same("12: their length is anew", hits(x), "3:500");
    }

    private static void crashStays() {
        HitHarbour x = new HitHarbour();
        x.fold(5, 1);
        x.setStop(2, true);
        x.joinTo(1, 3);
        put(x, 0, 0, 5);
        x.term(0, 1);
        x.keep(0);
        x.clause('s', 0);
        x.search(reader(x), 0, 24, false);
        x.draft(0, 5);
        due.same("12: one is lost", x.crash(), 1);
        due.same("12: no document", x.documents(), 0);
        due.same("12: hits stay", hits(x), "0:200");
        due.same("12: the draft stays, stored queries too", x.met(0, 0), 1);
        due.same("12: and clauses", x.clause('s', 0), 2);
        due.same("12: queries", x.term(0, 1), 1);
        due.same("12: folding", x.fold(5, 5), 1);
        due.same("12: stop words", x.setStop(2, false), true);
        due.same("12: joining", x.joinTo(1, -1), 3);
        due.same("12: readers are numbered on", x.open(), 1);
        put(x, 0, 0, 1);
        x.sync();
        x.crash();
        x.fold(1, 9);
        due.same("12: the lost word", x.having(reader(x), 0), 1);
        HitHarbour y = new HitHarbour();
        y.joinTo(1, 2);
        put(y, 0, 0, 1);
        y.sync();
        y.joinTo(1, 3);
        y.crash();
        y.term(0, 2);
        y.term(0, 3);
        int r = reader(y);
        due.same("12: as it was analysed", y.having(r, 0), 1);
        due.same("12: not as words are now", y.having(r, 1), 0);
    }

    private static void documentsPromise() {
        HitHarbour x = new HitHarbour();
        put(x, 0, 0);
        due.same("13: in the buffer", x.documents(), 1);
        x.refresh();
        put(x, 0, 0);
        due.same("13: both", x.documents(), 2);
        x.delete(0);
        due.same("13: deleted ones not", x.documents(), 1);
    }

    private static void segmentAtPromise() {
        HitHarbour x = new HitHarbour();
        put(x, 0, 0);
        put(x, 0, 0);
        x.refresh();
        put(x, 0, 0);
        due.same("14: segments", x.segments(), 1);
        x.refresh();
        due.same("14: one more", x.segments(), 2);
        x.delete(0);
        due.same("14: the same", x.segments(), 2);
        x.refresh();
        due.same("15: deleted ones are there", x.segmentAt(0, 0), 0);
        due.same("15: the next", x.segmentAt(0, 1), 1);
        due.same("15: the other segment", x.segmentAt(1, 0), 2);
        due.range("15: segment -1", () -> x.segmentAt(-1, 0));
        due.range("15: segment 2", () -> x.segmentAt(2, 0));
        due.range("15: place -1", () -> x.segmentAt(0, -1));
        due.range("15: place 2", () -> x.segmentAt(0, 2));
        due.range("15: far", () -> x.segmentAt(Integer.MAX_VALUE, Integer.MAX_VALUE));
        due.range("15: far below", () -> x.segmentAt(0, Integer.MIN_VALUE));
    }

    private static void openPromise() {
        HitHarbour x = new HitHarbour();
        put(x, 0, 0);
        due.same("16: the first", x.open(), 0);
        due.same("16: the buffer is not seen", x.seen(0), 0);
        x.refresh();
        due.same("16: its moment stays", x.seen(0), 0);
        due.same("16: the second", x.open(), 1);
        due.same("16: sees it", x.seen(1), 1);
        x.close(0);
        for (int n = 2; n < 6; n++) {
            due.same("16: numbers", x.open(), n);
        }
        due.state("16: closed ones are counted", () -> x.open());
        x.crash();
        due.state("16: behind a crash too", () -> x.open());
    }

    private static void closePromise() {
        HitHarbour x = new HitHarbour();
        due.range("17: none", () -> x.close(0));
        x.open();
        x.open();
        x.open();
        due.same("17: two are open", x.close(1), 2);
        due.range("17: again", () -> x.close(1));
        due.range("17: -1", () -> x.close(-1));
        due.range("17: 3", () -> x.close(3));
        due.range("17: 33", () -> x.close(33));
        due.same("17: one", x.close(2), 1);
        due.same("17: none", x.close(0), 0);
        x.open();
        x.crash();
        due.range("17: closed by a crash", () -> x.close(3));
    }

    private static void seenPromise() {
        HitHarbour x = new HitHarbour();
        for (int n = 0; n < 5; n++) {
            put(x, 0, 0);
        }
        int r = reader(x);
        due.same("18: five", x.seen(r), 5);
        due.range("18: none", () -> x.seen(1));
        due.range("18: -1", () -> x.seen(-1));
        x.delete(4);
        due.same("18: four", x.seen(reader(x)), 4);
        x.close(r);
        due.range("18: closed", () -> x.seen(r));
    }

    private static void termPromise() {
        HitHarbour x = new HitHarbour();
        due.range("19: field -1", () -> x.term(-1, 99));
        due.range("19: field 2", () -> x.term(2, 0));
        due.argument("19: word -1", () -> x.term(0, -1));
        due.argument("19: word 31", () -> x.term(1, 31));
        due.same("19: first", x.term(0, 0), 0);
        due.same("19: second", x.term(1, 30), 1);
        x.draft(0, 0);
        x.draft(1, 30);
        x.draft(0, 0);
        x.draft(0, 1);
        x.add(0, 0, -1);
        x.draft(1, 0);
        x.add(0, 0, -1);
        x.draft(0, 0);
        x.add(0, 0, -1);
        int r = reader(x);
        x.search(r, 0, 24, false);
        due.same("19: by field, how often and length", hits(x), "0:444 2:333");
        x.search(r, 1, 24, false);
        due.same("19: rare ones", hits(x), "0:500");
        x.fold(0, 1);
        due.same("19: words in queries are as they are", x.having(r, 0), 2);
    }

    private static void phrasePromise() {
        HitHarbour x = new HitHarbour();
        due.range("20: field -1", () -> x.phrase(-1, 99, 0, 0, 0, true));
        due.range("20: field 2", () -> x.phrase(2, 0, 0, 0, 0, true));
        due.argument("20: a -1", () -> x.phrase(0, -1, 0, 0, 0, true));
        due.argument("20: a 31", () -> x.phrase(0, 31, 0, 0, 0, true));
        due.argument("20: b -1", () -> x.phrase(0, 0, -1, 0, 0, true));
        due.argument("20: b 31", () -> x.phrase(0, 0, 31, 0, 0, true));
        due.argument("20: c -2", () -> x.phrase(0, 0, 0, -2, 0, true));
        due.argument("20: c 31", () -> x.phrase(0, 0, 0, 31, 0, true));
        due.argument("20: slop -1", () -> x.phrase(0, 0, 0, -1, -1, true));
        due.argument("20: slop 10", () -> x.phrase(0, 0, 0, -1, 10, true));
        put(x, 0, 0, 1, 9, 2);
        put(x, 0, 0, 2, 1);
        put(x, 0, 0, 1);
        due.same("20: first", x.phrase(0, 1, 2, -1, 0, true), 0);
        due.same("20: slop 1", x.phrase(0, 1, 2, -1, 1, true), 1);
        due.same("20: the other way", x.phrase(0, 2, 1, -1, 9, true), 2);
        due.same("20: any order", x.phrase(0, 1, 2, -1, 0, false), 3);
        due.same("20: any order, slop 1", x.phrase(0, 1, 2, -1, 1, false), 4);
        due.same("20: other field", x.phrase(1, 1, 2, -1, 9, false), 5);
        due.same("20: twice the same", x.phrase(0, 1, 1, -1, 9, false), 6);
        int r = reader(x);
        due.same("20: not near", x.having(r, 0), 0);
        x.search(r, 1, 24, false);
        due.same("20: near", hits(x), "0:333");
        x.search(r, 2, 24, false);
        due.same("20: backwards", hits(x), "1:400");
        x.search(r, 3, 24, false);
        due.same("20: not ordered", hits(x), "1:400");
        x.search(r, 4, 24, false);
        due.same("20: both", hits(x), "1:266 0:222");
        due.same("20: field 1", x.having(r, 5), 0);
        due.same("20: positions are different", x.having(r, 6), 0);
    }

    private static void phraseOfThree() {
        HitHarbour x = new HitHarbour();
        put(x, 0, 0, 1, 2, 9, 3);
        put(x, 0, 0, 3, 1, 2);
        put(x, 0, 0, 1, 1, 9, 1);
        put(x, 0, 0, 1, 2, 1);
        x.phrase(0, 1, 2, 3, 1, true);
        x.phrase(0, 1, 2, 3, 0, true);
        x.phrase(0, 1, 2, 3, 0, false);
        x.phrase(0, 1, 1, 1, 0, true);
        x.phrase(0, 1, 1, 1, 1, true);
        x.phrase(0, 1, 1, 1, 1, false);
        x.phrase(0, 2, 1, 1, 0, false);
        x.phrase(0, 2, 2, 1, 9, false);
        int r = reader(x);
        int[] want = {1, 0, 1, 0, 1, 1, 1, 0};
        for (int query = 0; query < want.length; query++) {
            due.same("20: three words, query " + query, x.having(r, query), want[query]);
        }
        x.search(r, 2, 24, false);
        due.same("20: three in any order", hits(x), "1:416");
        HitHarbour y = new HitHarbour();
        y.joinTo(1, 2);
        put(y, 0, 0, 1, 1);
        y.phrase(0, 1, 2, -1, 0, true);
        y.phrase(0, 1, 2, 1, 9, false);
        y.phrase(0, 2, 1, -1, 0, false);
        int s = reader(y);
        y.search(s, 0, 24, false);
        due.same("20: with those that join", hits(y), "0:142");
        due.same("20: two positions for three words", y.having(s, 1), 0);
        due.same("20: joined, in any order", y.having(s, 2), 1);
        HitHarbour z = new HitHarbour();
        z.joinTo(1, 2);
        z.joinTo(2, 3);
        put(z, 0, 0, 7, 1, 3);
        z.phrase(0, 7, 1, 2, 9, false);
        z.phrase(0, 7, 1, 3, 0, true);
        int t = reader(z);
        due.same("20: two words have one position only", z.having(t, 0), 0);
        due.same("20: three in order", z.having(t, 1), 1);
    }

    private static void phraseOften() {
        HitHarbour x = new HitHarbour();
        put(x, 0, 0, 1, 1, 2, 2, 1, 2);
        x.phrase(0, 1, 2, -1, 0, true);
        x.phrase(0, 1, 2, -1, 1, true);
        x.phrase(0, 1, 2, -1, 0, false);
        x.phrase(0, 1, 2, -1, 9, false);
        x.phrase(0, 1, 1, -1, 1, true);
        x.phrase(0, 1, 1, -1, 2, true);
        int r = reader(x);
        String[] want = {"0:222", "0:333", "0:333", "0:555", "0:111", "0:222"};
        for (int query = 0; query < want.length; query++) {
            x.search(r, query, 24, false);
            due.same("20: how often, query " + query, hits(x), want[query]);
        }
    }

    private static void pricedPromise() {
        HitHarbour x = new HitHarbour();
        due.argument("21: the least is greater", () -> x.priced(5, 4));
        put(x, 0, 4);
        put(x, 0, 5);
        put(x, 0, 6);
        due.same("21: one price", x.priced(5, 5), 0);
        due.same("21: both ends", x.priced(4, 6), 1);
        due.same("21: any number", x.priced(Integer.MIN_VALUE, 4), 2);
        due.same("21: above all", x.priced(1000, Integer.MAX_VALUE), 3);
        int r = reader(x);
        int[] want = {1, 3, 1, 0};
        for (int query = 0; query < want.length; query++) {
            due.same("21: query " + query, x.having(r, query), want[query]);
        }
        x.search(r, 1, 24, true);
        due.same("21: no score", hits(x), "0:0 1:0 2:0");
    }

    private static void colouredPromise() {
        HitHarbour x = new HitHarbour();
        due.argument("22: -1", () -> x.coloured(-1));
        due.argument("22: 6", () -> x.coloured(6));
        put(x, 5, 0);
        put(x, 0, 0);
        put(x, 5, 0);
        due.same("22: first", x.coloured(5), 0);
        due.same("22: second", x.coloured(1), 1);
        int r = reader(x);
        x.search(r, 0, 24, false);
        due.same("22: no score", hits(x), "0:0 2:0");
        due.same("22: none", x.having(r, 1), 0);
    }

    private static void boostedPromise() {
        HitHarbour x = new HitHarbour();
        due.range("23: none, ahead of the factor", () -> x.boosted(0, 10));
        x.term(0, 1);
        due.range("23: -1", () -> x.boosted(-1, 1));
        due.range("23: 1", () -> x.boosted(1, 1));
        due.argument("23: factor 0", () -> x.boosted(0, 0));
        due.argument("23: factor 10", () -> x.boosted(0, 10));
        due.same("23: first", x.boosted(0, 9), 1);
        for (int n = 2; n < 20; n++) {
            due.same("23: nested", x.boosted(n - 1, 9), n);
        }
        due.tooGreat("23: size 21", () -> x.boosted(19, 9));
        due.argument("23: the factor goes ahead", () -> x.boosted(19, 0));
        put(x, 0, 0, 1);
        int r = reader(x);
        x.search(r, 1, 24, false);
        due.same("23: times 9", hits(x), "0:2250");
        int wrapped = 250;
        for (int n = 0; n < 19; n++) {
            wrapped *= 9;
        }
        x.search(r, 19, 24, false);
        due.same("23: wraps", hits(x), "0:" + wrapped);
        x.searchAnew(r, 19, 24, true);
        due.same("23: wraps anew", hits(x), "0:" + wrapped);
    }

    private static void parentsPromise() {
        HitHarbour x = new HitHarbour();
        due.range("24: none", () -> x.parents(0));
        put(x, 0, 0, 1);
        child(x, 0, 1, 2);
        child(x, 0, 1, 1);
        put(x, 0, 0, 1);
        put(x, 0, 0, 3);
        child(x, 4, 9, 9, 9, 1);
        child(x, 4);
        x.term(0, 1);
        due.same("24: number", x.parents(0), 1);
        due.same("24: of parents", x.parents(1), 2);
        due.same("24: boosted", x.boosted(1, 2), 3);
        int r = reader(x);
        due.same("24: matching", x.search(r, 1, 24, false), 2);
        due.same("24: the greatest score", hits(x), "0:533 4:190");
        due.same("24: parents have none", x.having(r, 2), 0);
        x.searchAnew(r, 3, 24, false);
        due.same("24: boosted ones", hits(x), "0:1066 4:380");
        due.element("24: a child is not one", () -> x.score(r, 1, 1, false));
        x.delete(2);
        x.search(reader(x), 1, 24, false);
        due.same("24: without a child", hits(x), "0:280 4:200");
        x.delete(1);
        x.delete(5);
        due.same("24: without children", x.having(reader(x), 1), 0);
        due.same("24: the old reader", x.having(r, 1), 2);
        for (int n = 4; n < 21; n++) {
            x.boosted(n - 1, 1);
        }
        due.same("24: size 20", x.parents(19), 21);
        due.tooGreat("24: size 21", () -> x.parents(21));
        due.range("24: 22", () -> x.parents(22));
        HitHarbour y = new HitHarbour();
        put(y, 0, 0);
        child(y, 0, 1, 1, 1, 1, 1, 1, 1);
        y.term(0, 1);
        // 700 times 9 eight times wraps below 0.
        for (int n = 0; n < 8; n++) {
            y.boosted(n, 9);
        }
        y.parents(8);
        int s = reader(y);
        int wrapped = 7 * 1000 * 3 / 2 / 10;
        for (int n = 0; n < 8; n++) {
            wrapped *= 9;
        }
        y.search(s, 9, 24, false);
        due.same("24: a score below 0 is the greatest of its own", hits(y), "0:" + wrapped);
    }

    private static void clausePromise() {
        HitHarbour x = new HitHarbour();
        due.argument("25: kind, ahead of the query", () -> x.clause('x', 0));
        due.range("25: no query", () -> x.clause('m', 0));
        x.coloured(0);
        due.range("25: -1", () -> x.clause('m', -1));
        due.range("25: 1", () -> x.clause('m', 1));
        due.argument("25: M", () -> x.clause('M', 0));
        due.argument("25: sign 0", () -> x.clause((char) 0, 0));
        due.argument("25: sign 65535", () -> x.clause((char) 65535, 0));
        char[] kinds = {'m', 's', 'n', 'f', 'm', 's'};
        for (int n = 0; n < 6; n++) {
            due.same("25: number", x.clause(kinds[n], 0), n + 1);
        }
        due.state("25: six", () -> x.clause('m', 0));
        due.range("25: the query goes ahead", () -> x.clause('m', 1));
        x.set(0);
        due.same("25: anew", x.clause('m', 1), 1);
    }

    private static void setPromise() {
        HitHarbour x = new HitHarbour();
        due.argument("26: no clauses", () -> x.set(0));
        x.term(0, 1);
        x.clause('m', 0);
        due.argument("26: -1", () -> x.set(-1));
        due.argument("26: 7", () -> x.set(7));
        due.same("26: made", x.set(0), 1);
        due.argument("26: no clauses any more", () -> x.set(0));
        for (int n = 0; n < 6; n++) {
            x.clause('m', 1);
        }
        due.same("26: size 13", x.set(6), 2);
        x.clause('s', 2);
        for (int n = 0; n < 3; n++) {
            x.clause('s', 1);
        }
        due.same("26: size 20", x.set(0), 3);
        x.clause('s', 2);
        for (int n = 0; n < 3; n++) {
            x.clause('s', 1);
        }
        x.clause('s', 0);
        due.tooGreat("26: size 21", () -> x.set(0));
        due.argument("26: the number goes ahead", () -> x.set(7));
        due.same("26: the clauses stay", x.clause('m', 0), 6);
        due.tooGreat("26: still", () -> x.set(0));
    }

    /** Documents 0 to 4: no word, 1, 2, 1 and 2, 3; the colour of each is its number. */
    private static HitHarbour fiveDocuments() {
        HitHarbour x = new HitHarbour();
        put(x, 0, 0);
        put(x, 1, 10, 1);
        put(x, 2, 20, 2);
        put(x, 3, 30, 1, 2);
        put(x, 4, 40, 3);
        x.term(0, 1);
        x.term(0, 2);
        x.priced(0, 35);
        x.coloured(3);
        return x;
    }

    private static void setMatching() {
        Object[][] rows = {
            {0, "s0s1", "3:800 1:500 2:500"},
            {1, "s0s1", "3:800 1:500 2:500"},
            {2, "s0s1", "3:800"},
            {3, "s0s1", ""},
            {0, "m0s1", "3:800 1:500"},
            {1, "m0s1", "3:800"},
            {0, "f0s1", "3:400 1:0"},
            {0, "m0n1", "1:500"},
            {0, "m0f1", "3:400"},
            {0, "n0", ""},
            {0, "n0n1", ""},
            {0, "f2n0", "0:0 2:0"},
            {0, "s2", "0:0 1:0 2:0 3:0"},
            {0, "m0m0", "1:1000 3:800"},
            {2, "s0s0", "1:1000 3:800"},
            {1, "m0", ""},
            {0, "f2", "0:0 1:0 2:0 3:0"},
            {2, "f2s0s1s3", "3:800"},
            {0, "s0n3", "1:500"},
            {0, "m2f0s1n3", "1:0"},
        };
        for (Object[] row : rows) {
            HitHarbour x = fiveDocuments();
            int query = setOf(x, (Integer) row[0], (String) row[1]);
            int r = reader(x);
            x.search(r, query, 24, false);
            due.same("26: set " + row[1] + " of " + row[0], hits(x), row[2]);
            x.searchAnew(r, query, 24, false);
            due.same("26: set anew " + row[1] + " of " + row[0], hits(x), row[2]);
        }
        HitHarbour x = fiveDocuments();
        int inner = setOf(x, 0, "s0s1");
        int outer = setOf(x, 0, "s4s0");
        int twice = setOf(x, 0, "m5n3");
        int r = reader(x);
        x.search(r, inner, 24, false);
        x.search(r, outer, 24, false);
        due.same("26: parts of several", hits(x), "3:1200 1:1000 2:500");
        x.search(r, twice, 24, false);
        due.same("26: nested", hits(x), "1:1000 2:500");
        HitHarbour y = new HitHarbour();
        put(y, 0, 0, 1, 1);
        y.term(0, 1);
        setOf(y, 0, "m0s0");
        int s = reader(y);
        for (int time = 0; time < 3; time++) {
            y.search(s, 1, 24, false);
            due.same("26: the same each time", hits(y), "0:800");
        }
    }

    private static void searchPromise(boolean isAnew) {
        String name = isAnew ? "28: " : "27: ";
        HitHarbour x = new HitHarbour();
        for (int n = 0; n < 6; n++) {
            put(x, n % 2, n, n % 3 == 0 ? new int[] {1, 1} : new int[] {1});
        }
        x.term(0, 1);
        int r = reader(x);
        due.same(name + "all", look(x, isAnew, r, 0, 24, false), 6);
        due.same(name + "the lowest number of several", hits(x), "0:400 3:400 1:250 2:250 4:250 5:250");
        due.same(name + "three", look(x, isAnew, r, 0, 3, false), 6);
        due.same(name + "the best three", hits(x), "0:400 3:400 1:250");
        due.range(name + "reader -1", () -> look(x, isAnew, -1, 0, 1, false));
        due.range(name + "reader 1", () -> look(x, isAnew, 1, 0, 25, false));
        due.range(name + "query -1", () -> look(x, isAnew, r, -1, 1, false));
        due.range(name + "query 1", () -> look(x, isAnew, r, 1, 25, false));
        due.argument(name + "-1", () -> look(x, isAnew, r, 0, -1, false));
        due.argument(name + "25", () -> look(x, isAnew, r, 0, 25, false));
        due.same(name + "hits stay", hits(x), "0:400 3:400 1:250");
        due.same(name + "none is kept", look(x, isAnew, r, 0, 0, true), 6);
        due.same(name + "none", hits(x), "");
        x.close(r);
        due.range(name + "closed", () -> look(x, isAnew, r, 0, 1, false));
    }

    private static int look(HitHarbour x, boolean isAnew, int reader, int query, int most, boolean isLocal) {
        return isAnew ? x.searchAnew(reader, query, most, isLocal) : x.search(reader, query, most, isLocal);
    }

    private static void localFacts() {
        HitHarbour x = new HitHarbour();
        put(x, 0, 0, 1);
        put(x, 0, 0, 2);
        child(x, 0, 1, 1);
        put(x, 0, 0, 1);
        x.refresh();
        child(x, 0, 1);
        x.term(0, 1);
        x.parents(0);
        x.phrase(0, 1, 1, -1, 0, true);
        int r = reader(x);
        due.same("27: two segments", segments(x), "0 1 2 3|4");
        x.search(r, 0, 24, false);
        due.same("27: facts of the reader", hits(x), "2:480 0:300 3:300 4:300");
        x.search(r, 0, 24, true);
        due.same("27: facts of the segments", hits(x), "2:500 0:312 3:312 4:250");
        x.searchAnew(r, 0, 24, true);
        due.same("28: facts of the segments", hits(x), "2:500 0:312 3:312 4:250");
        x.search(r, 1, 24, true);
        due.same("27: of the child's segment", hits(x), "0:500");
        x.search(r, 2, 24, true);
        due.same("27: a phrase in its segment", hits(x), "2:500");
        x.delete(3);
        x.delete(2);
        int s = reader(x);
        x.search(s, 0, 24, true);
        due.same("27: facts drift with deletions", hits(x), "0:375 4:250");
        x.search(s, 0, 24, false);
        due.same("27: of the reader too", hits(x), "0:333 4:333");
        x.search(r, 0, 24, true);
        due.same("27: an old reader's do not", hits(x), "2:500 0:312 3:312 4:250");
        x.search(s, 1, 24, true);
        due.same("27: the child in another segment", hits(x), "0:250");
    }

    private static void hitsPromise() {
        HitHarbour x = new HitHarbour();
        due.same("29: none", x.hits(), 0);
        due.range("30: none", () -> x.hitAt(0));
        due.range("31: none", () -> x.scoreAt(0));
        put(x, 0, 0, 1);
        put(x, 0, 0, 1, 1);
        x.term(0, 1);
        int r = reader(x);
        x.search(r, 0, 24, false);
        due.same("29: two", x.hits(), 2);
        due.same("30: the best", x.hitAt(0), 1);
        due.same("30: the next", x.hitAt(1), 0);
        due.same("31: the best", x.scoreAt(0), 400);
        due.same("31: the next", x.scoreAt(1), 250);
        due.range("30: -1", () -> x.hitAt(-1));
        due.range("30: 2", () -> x.hitAt(2));
        due.range("31: -1", () -> x.scoreAt(-1));
        due.range("31: 2", () -> x.scoreAt(2));
        x.having(r, 0);
        x.count(r, 0, 0, false);
        x.score(r, 0, 0, false);
        x.met(0, 0);
        x.isSound();
        x.delete(0);
        x.refresh();
        x.close(r);
        due.same("29: hits stay", hits(x), "1:400 0:250");
        x.search(x.open(), 0, 1, false);
        due.same("29: till the next search", hits(x), "1:400");
    }

    private static void scorePromise() {
        HitHarbour x = new HitHarbour();
        put(x, 0, 0, 1);
        put(x, 0, 0, 2);
        x.term(0, 1);
        x.coloured(0);
        int r = reader(x);
        put(x, 0, 0, 1);
        due.same("32: score", x.score(r, 0, 0, false), 375);
        due.same("32: none is told", x.score(r, 1, 1, true), 0);
        due.element("32: no match", () -> x.score(r, 0, 1, false));
        due.element("32: not the reader's", () -> x.score(r, 0, 2, false));
        due.element("32: -1", () -> x.score(r, 0, -1, false));
        due.element("32: 24", () -> x.score(r, 1, 24, false));
        due.element("32: 32", () -> x.score(r, 1, 32, false));
        due.range("32: no reader", () -> x.score(1, 0, 0, false));
        due.range("32: no query", () -> x.score(r, 2, 99, false));
        x.met(0, 0);
        due.element("32: the draft is no document", () -> x.score(r, 1, 24, false));
        int s = reader(x);
        due.same("32: drifts", x.score(s, 0, 0, false), 333);
        due.same("32: locally", x.score(s, 0, 2, true), 250);
        x.delete(0);
        due.same("32: still there", x.score(r, 0, 0, false), 375);
        due.element("32: deleted", () -> x.score(reader(x), 0, 0, false));
        x.close(r);
        due.range("32: closed", () -> x.score(r, 0, 0, false));
    }

    private static void countPromise() {
        HitHarbour x = fiveDocuments();
        put(x, 3, 5, 1);
        int own = setOf(x, 0, "s0s1f3");
        int must = setOf(x, 0, "s0m3");
        int within = setOf(x, 0, "m4");
        int two = setOf(x, 0, "m0f2f3");
        int boosted = x.boosted(own, 2);
        x.boosted(3, 2);
        int inBoost = setOf(x, 0, "s0f9");
        int only = setOf(x, 0, "f3");
        int should = setOf(x, 2, "s0s1f3");
        int r = reader(x);
        due.range("33: no reader", () -> x.count(1, 0, 9, false));
        due.range("33: no query", () -> x.count(r, 20, 9, false));
        due.argument("33: colour -1", () -> x.count(r, 0, -1, false));
        due.argument("33: colour 6", () -> x.count(r, 0, 6, true));
        due.same("33: a term", x.count(r, 0, 3, false), 2);
        due.same("33: a term's own", x.count(r, 0, 1, true), 1);
        due.same("33: another colour", x.count(r, 0, 2, false), 0);
        due.same("33: of colour 3", x.count(r, own, 3, false), 2);
        due.same("33: of colour 0", x.count(r, own, 0, false), 0);
        due.same("33: left out, each document matches it", x.count(r, own, 0, true), 1);
        due.same("33: left out, with words", x.count(r, own, 1, true), 1);
        due.same("33: clauses m stay", x.count(r, must, 1, true), 0);
        due.same("33: those within stay", x.count(r, within, 1, true), 0);
        due.same("33: within, its own colour", x.count(r, within, 3, true), 2);
        due.same("33: other filters stay", x.count(r, two, 1, true), 1);
        due.same("33: other filters count", x.count(r, two, 4, true), 0);
        due.same("33: only sets have own clauses", x.count(r, boosted, 1, true), 0);
        due.same("33: a boosted colour is not one", x.count(r, inBoost, 1, true), 0);
        due.same("33: all by one colour", x.count(r, only, 4, true), 1);
        due.same("33: all but for it", x.count(r, only, 4, false), 0);
        due.same("33: those of kind s stay", x.count(r, should, 1, true), 0);
        due.same("33: a colour alone is no set", x.count(r, 3, 1, true), 0);
        x.close(r);
        due.range("33: closed", () -> x.count(r, 0, 0, false));
    }

    private static void havingPromise() {
        HitHarbour x = fiveDocuments();
        int r = reader(x);
        due.range("34: no reader", () -> x.having(-1, 0));
        due.range("34: no query", () -> x.having(r, 4));
        due.range("34: query -1", () -> x.having(r, -1));
        int[] want = {2, 2, 4, 1};
        for (int query = 0; query < want.length; query++) {
            due.same("34: query " + query, x.having(r, query), want[query]);
        }
        x.close(r);
        due.range("34: closed", () -> x.having(r, 0));
    }

    private static void keepPromise() {
        HitHarbour x = new HitHarbour();
        due.range("35: none", () -> x.keep(0));
        x.coloured(0);
        due.range("35: -1", () -> x.keep(-1));
        due.range("35: 1", () -> x.keep(1));
        for (int n = 1; n <= 8; n++) {
            due.same("35: the same one too", x.keep(0), n);
        }
        due.state("35: eight", () -> x.keep(0));
        due.range("35: the query goes ahead", () -> x.keep(1));
        due.same("35: all of them", x.met(0, 0), 255);
    }

    private static void metPromise() {
        HitHarbour x = new HitHarbour();
        x.fold(5, 1);
        x.term(0, 1);
        x.coloured(3);
        x.priced(7, 7);
        x.parents(0);
        x.phrase(1, 1, 2, -1, 0, true);
        setOf(x, 0, "m0n1");
        due.same("36: none is stored", x.met(3, 7), 0);
        x.keep(2);
        x.keep(0);
        x.keep(1);
        x.keep(3);
        x.keep(4);
        x.keep(5);
        due.argument("36: colour -1", () -> x.met(-1, 0));
        due.argument("36: colour 6", () -> x.met(6, 0));
        due.argument("36: price -1", () -> x.met(0, -1));
        due.argument("36: price 1000", () -> x.met(0, 1000));
        due.same("36: without words", x.met(3, 7), 5);
        due.same("36: nothing", x.met(0, 0), 0);
        x.draft(0, 5);
        x.draft(1, 1);
        x.draft(1, 2);
        due.same("36: analysed now", x.met(0, 0), 2 + 16 + 32);
        due.same("36: the draft stays", x.met(3, 7), 1 + 2 + 4 + 16);
        x.fold(5, 5);
        due.same("36: and now", x.met(0, 7), 1 + 16);
        due.same("36: no operation", x.operations(), 0L);
        due.same("36: words are there", x.draft(1, 3), 3);
        put(x, 0, 0, 1);
        child(x, 0, 1);
        reader(x);
        due.same("36: others do not count", x.met(0, 0), 0);
        due.same("36: documents", x.documents(), 2);
        x.draft(0, 1);
        x.keep(0);
        due.same("36: stored later", x.met(0, 0), 2 + 32 + 64);
        due.same("36: reader stays", x.seen(0), 2);
        HitHarbour y = new HitHarbour();
        y.term(0, 0);
        y.keep(0);
        y.draft(0, 0);
        due.same("36: word 0", y.met(0, 0), 1);
        y.add(0, 0, -1);
        due.same("36: no more", y.met(0, 0), 0);
    }

    private static void operationsPromise() {
        HitHarbour x = new HitHarbour();
        put(x, 0, 0, 1);
        child(x, 0);
        due.same("37: added", x.operations(), 2L);
        x.setPrice(0, 0);
        due.same("37: the same price counts", x.operations(), 3L);
        due.argument("37: what throws does not", () -> x.setPrice(0, -1));
        x.sync();
        x.delete(0);
        due.same("37: one for both", x.operations(), 4L);
        x.crash();
        due.same("37: lost ones too, those done again once", x.operations(), 4L);
        x.refresh();
        x.commit();
        due.same("37: committing is none", x.operations(), 4L);
        x.setPrice(0, 0);
        due.same("37: on", x.operations(), 5L);
    }

    private static void sharePromise() {
        HitHarbour x = new HitHarbour();
        due.arithmetic("38: none", () -> x.deletedShare());
        put(x, 0, 0);
        due.arithmetic("38: only in the buffer", () -> x.deletedShare());
        put(x, 0, 0);
        put(x, 0, 0);
        x.commit();
        due.same("38: none was deleted", x.deletedShare(), 0f);
        x.delete(1);
        due.same("38: one of three", x.deletedShare(), 1f / 3f);
        x.refresh();
        due.same("38: still there", x.deletedShare(), 1f / 3f);
        put(x, 0, 0);
        x.delete(3);
        due.same("38: the buffer does not count", x.deletedShare(), 1f / 3f);
        x.crash();
        due.same("38: not deleted", x.deletedShare(), 0f);
        x.delete(0);
        x.sync();
        x.crash();
        due.same("38: deleted again", x.deletedShare(), 1f / 3f);
        x.delete(1);
        x.delete(2);
        due.same("38: all", x.deletedShare(), 1f);
        x.refresh();
        due.arithmetic("38: all are gone", () -> x.deletedShare());
    }

    private static void meanPromise() {
        HitHarbour x = new HitHarbour();
        due.arithmetic("39: none", () -> x.meanScore());
        put(x, 0, 0, 1);
        put(x, 0, 0, 1, 1);
        put(x, 0, 0, 1, 2);
        x.term(0, 1);
        int r = reader(x);
        x.search(r, 0, 24, false);
        due.same("39: of three", x.meanScore(), (400 + 250 + 200) / 3.0);
        x.search(r, 0, 2, false);
        due.same("39: of two", x.meanScore(), 325.0);
        x.search(r, 0, 0, false);
        due.arithmetic("39: none was kept", () -> x.meanScore());
        for (int n = 0; n < 8; n++) {
            x.boosted(n, 9);
        }
        x.search(r, 8, 24, false);
        long sum = 0;
        for (int hit = 0; hit < 3; hit++) {
            sum += x.scoreAt(hit);
        }
        due.same("39: the sum does not wrap", x.meanScore(), (double) sum / 3.0);
    }

    private static void soundPromise() {
        HitHarbour x = fiveDocuments();
        child(x, 1, 1, 2);
        x.parents(0);
        setOf(x, 0, "s0s4n3");
        x.boosted(5, 9);
        int r = reader(x);
        due.same("40: sound", x.isSound(), true);
        x.search(r, 5, 2, true);
        String before = hits(x);
        x.delete(1);
        put(x, 0, 0, 1);
        due.same("40: with a buffer", x.isSound(), true);
        due.same("40: hits stay", hits(x), before);
        x.sync();
        x.crash();
        due.same("40: behind a crash", x.isSound(), true);
        x.refresh();
        due.same("40: refreshed", x.isSound(), true);
    }

    private static void queryRoom() {
        HitHarbour x = new HitHarbour();
        for (int n = 0; n < 30; n++) {
            due.same("19: numbers", x.term(0, n), n);
        }
        due.state("19: 30", () -> x.term(0, 0));
        due.argument("19: the word goes ahead", () -> x.term(0, 31));
        due.state("20: 30", () -> x.phrase(0, 0, 0, -1, 0, true));
        due.argument("20: the slop goes ahead", () -> x.phrase(0, 0, 0, -1, 10, true));
        due.state("21: 30", () -> x.priced(0, 0));
        due.argument("21: the range goes ahead", () -> x.priced(1, 0));
        due.state("22: 30", () -> x.coloured(0));
        due.argument("22: the colour goes ahead", () -> x.coloured(6));
        due.state("23: 30", () -> x.boosted(0, 1));
        due.range("23: the query goes ahead", () -> x.boosted(30, 1));
        due.state("24: 30", () -> x.parents(29));
        due.range("24: the query goes ahead", () -> x.parents(30));
        due.argument("26: no clauses go ahead", () -> x.set(0));
        x.clause('m', 29);
        due.state("26: 30", () -> x.set(0));
        due.same("26: the clause stays", x.clause('m', 0), 2);
        HitHarbour y = new HitHarbour();
        y.term(0, 0);
        for (int n = 1; n < 20; n++) {
            y.boosted(n - 1, 1);
        }
        for (int n = 20; n < 30; n++) {
            y.coloured(0);
        }
        due.tooGreat("23: the size goes ahead", () -> y.boosted(19, 1));
        due.tooGreat("24: the size goes ahead", () -> y.parents(19));
        y.clause('m', 19);
        due.tooGreat("26: the size goes ahead", () -> y.set(0));
    }
}
