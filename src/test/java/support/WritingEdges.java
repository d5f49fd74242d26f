/** Edges of documents and of writing: the terms' parts "Documents" and "Writing" and promises 6 to 9. */
final class WritingEdges extends Calls {
    private WritingEdges() {
    }

    static void all(Edges edges) {
        documentTerms(edges);
        writingTerms(edges);
        addEdges(edges);
        deleteEdges(edges);
        priceEdges(edges);
        edges.of(9, "Returns the number of segments.", WritingEdges::refreshNumber);
    }

    private static void documentTerms(Edges edges) {
        edges.of(0, "A document has two fields, 0 and 1, each of up to 10 words in its draft, a colour from 0 to 5, a"
                + " price from 0 to 999, and a parent, which is a document without one, or none.",
                WritingEdges::leastAndGreatestDocument);
        edges.of(0, "The length of a field is how many words it has as it was analysed, those that join in counted.",
                WritingEdges::leastAndGreatestLength);
        edges.of(0, "At most 24 documents are numbered from 0, in the order in which they are added; numbers of"
                + " deleted ones are not given again.", WritingEdges::documentNumbers);
    }

    private static void writingTerms(Edges edges) {
        String operations = "Adding, deleting and pricing are operations; deleting a document, which is one operation,"
                + " deletes those of which it is the parent, too.";
        edges.of(0, operations, WritingEdges::operations);
        edges.of(0, operations, WritingEdges::deletingMost);
        edges.of(0, "A document that was added is in the buffer, at first.", WritingEdges::inTheBuffer);
        String refreshing = "Refreshing makes the buffer a segment behind the others, if there is a document in it that"
                + " was not deleted, with these; deletions and prices are there for readers that are opened behind"
                + " this, as they are told then.";
        edges.of(0, refreshing, WritingEdges::refreshingBuffer);
        edges.of(0, refreshing, WritingEdges::refreshingDeletionsAndPrices);
        String merging = "Then segments are merged: the tier of a segment is how many binary digits the number of its"
                + " documents has that were not deleted; as long as three segments, or more, have the same tier, the"
                + " first three of the lowest such tier become one in the place of the first of them, with their"
                + " documents that were not deleted, by rising numbers.";
        edges.of(0, merging, WritingEdges::tierBounds);
        edges.of(0, merging, WritingEdges::tierOfEachNumber);
        edges.of(0, merging, WritingEdges::tierOfLiving);
        edges.of(0, merging, WritingEdges::lowestTierFirst);
        edges.of(0, merging, WritingEdges::firstThreeOfMore);
        edges.of(0, merging, WritingEdges::mergingOnAndOn);
        edges.of(0, "Segments without such documents go ahead of that.", WritingEdges::emptySegments);
    }

    private static void addEdges(Edges edges) {
        edges.of(6, "Adds the draft as a document; the draft is empty then.", WritingEdges::draftIsEmptyThen);
        edges.of(6, "- `colour`: the colour, 0 to 5", WritingEdges::addColour);
        edges.of(6, "- `price`: the price, 0 to 999", WritingEdges::addPrice);
        edges.of(6, "- `parent`: the number of the parent, or -1", WritingEdges::addParent);
        edges.of(6, "Throws `IllegalArgumentException` if the colour or the price is out of range",
                WritingEdges::addOutOfRange);
        edges.of(6, "Throws `NoSuchElementException` if there is no such document as the parent, it was deleted, or has"
                + " a parent", WritingEdges::addNoParent);
        edges.of(6, "Throws `IllegalStateException` if there were 24 documents", WritingEdges::addFull);
    }

    private static void deleteEdges(Edges edges) {
        edges.of(7, "Returns how many documents were deleted by this.", WritingEdges::deleteNumber);
        edges.of(7, "Throws `NoSuchElementException` if there is no such document, or it was deleted",
                WritingEdges::deleteThrows);
    }

    private static void priceEdges(Edges edges) {
        edges.of(8, "- `price`: the price, 0 to 999", WritingEdges::leastAndGreatestPrice);
        edges.of(8, "Returns the price before.", WritingEdges::priceBefore);
        edges.of(8, "Throws `NoSuchElementException` if there is no such document, or it was deleted",
                WritingEdges::priceNoDocument);
        edges.of(8, "Throws `IllegalArgumentException` if it is out of range", WritingEdges::priceOutOfRange);
    }

    private static void leastAndGreatestDocument() {
        HitHarbour x = new HitHarbour();
        due.same("no words, the least colour and price, no parent", x.add(0, 0, -1), 0);
        for (int word = 0; word < 10; word++) {
            x.draft(0, 20);
            x.draft(1, word);
        }
        due.same("all words, the greatest colour and price, a parent", x.add(5, 999, 0), 1);
        x.term(0, 20);
        x.term(1, 20);
        x.term(1, 0);
        x.term(1, 9);
        x.coloured(0);
        x.coloured(5);
        x.priced(0, 0);
        x.priced(999, 999);
        x.parents(0);
        int r = reader(x);
        String[] want = {"1:1153", "", "1:115", "1:115", "0:0", "1:0", "0:0", "1:0", "0:1153"};
        for (int query = 0; query < want.length; query++) {
            due.same("query " + query, found(x, r, query), want[query]);
        }
    }

    private static void leastAndGreatestLength() {
        HitHarbour x = new HitHarbour();
        x.setStop(9, true);
        x.joinTo(2, 3);
        put(x, 0, 0, 1);
        put(x, 0, 0, 9, 9, 9, 9, 9, 9, 9, 9, 9, 4);
        put(x, 0, 0, 2, 2, 2, 2, 2, 2, 2, 2, 2, 2);
        draft(x, 0, 5);
        draft(x, 1, 6, 6, 6, 6, 6, 6, 6, 6, 6);
        x.add(0, 0, -1);
        x.term(0, 1);
        x.term(0, 4);
        x.term(0, 2);
        x.term(0, 3);
        x.term(0, 5);
        int r = reader(x);
        due.same("one word", found(x, r, 0), "0:625");
        due.same("one that is left of ten", found(x, r, 1), "1:625");
        due.same("ten, with ten that join", found(x, r, 2), "2:1086");
        due.same("those that join", found(x, r, 3), "2:1086");
        due.same("words of the other field are not counted", found(x, r, 4), "3:625");
    }

    private static void documentNumbers() {
        HitHarbour x = new HitHarbour();
        for (int number = 0; number < 24; number++) {
            due.same("the next number", x.add(0, 0, -1), number);
            if (number % 3 == 0) {
                x.delete(number);
            }
            if (number % 5 == 0) {
                x.refresh();
            }
        }
        due.state("none is left, though some were deleted", () -> x.add(0, 0, -1));
        x.refresh();
        x.commit();
        due.state("nor behind committing", () -> x.add(0, 0, -1));
        x.delete(23);
        due.state("nor behind deleting the last one", () -> x.add(0, 0, -1));
        due.same("those that were not deleted", x.documents(), 15);
    }

    private static void operations() {
        HitHarbour x = new HitHarbour();
        due.same("none", x.operations(), 0L);
        x.add(0, 0, -1);
        due.same("adding", x.operations(), 1L);
        x.setPrice(0, 5);
        due.same("pricing", x.operations(), 2L);
        x.delete(0);
        due.same("deleting", x.operations(), 3L);
        x.draft(0, 1);
        x.fold(1, 2);
        x.refresh();
        x.commit();
        x.sync();
        x.term(0, 1);
        x.search(x.open(), 0, 1, false);
        x.crash();
        due.same("and nothing else", x.operations(), 3L);
    }

    private static void deletingMost() {
        HitHarbour x = new HitHarbour();
        put(x, 0, 0, 1);
        for (int number = 1; number < 23; number++) {
            child(x, 0, 1);
        }
        put(x, 0, 0, 1);
        x.commit();
        due.same("a parent and 22 children", x.delete(0), 23);
        due.same("the other one stays", x.documents(), 1);
        due.same("is one operation", x.sync(), 1);
        due.same("of all", x.operations(), 25L);
        x.crash();
        x.term(0, 1);
        due.same("done again it deletes them all", found(x, reader(x), 0), "23:250");
        HitHarbour y = new HitHarbour();
        put(y, 0, 0);
        child(y, 0);
        y.refresh();
        due.same("a child", y.delete(1), 1);
        due.same("does not delete its parent", y.delete(0), 1);
    }

    private static void inTheBuffer() {
        HitHarbour x = new HitHarbour();
        x.add(0, 0, -1);
        due.same("it is there", x.documents(), 1);
        due.same("in no segment", x.segments(), 0);
        due.range("indeed", () -> x.segmentAt(0, 0));
        due.same("and no reader's", x.seen(x.open()), 0);
        x.commit();
        x.add(0, 0, -1);
        x.sync();
        x.refresh();
        due.same("refreshed it is in a segment", segments(x), "0|1");
        x.crash();
        due.same("done again it is in the buffer again", segments(x), "0");
        due.same("and there", x.documents(), 2);
    }

    private static void refreshingBuffer() {
        HitHarbour x = new HitHarbour();
        due.same("nothing in the buffer", x.refresh(), 0);
        putMany(x, 2);
        x.delete(0);
        x.delete(1);
        due.same("only deleted ones in it", x.refresh(), 0);
        putMany(x, 3);
        x.delete(3);
        due.same("some deleted ones in it", x.refresh(), 1);
        due.same("do not come", segments(x), "2 4");
        due.same("nothing in it again", x.refresh(), 1);
        due.same("and no change", segments(x), "2 4");
        putMany(x, 1);
        due.same("one", x.refresh(), 2);
        due.same("behind the others", segments(x), "2 4|5");
    }

    private static void refreshingDeletionsAndPrices() {
        HitHarbour x = new HitHarbour();
        put(x, 0, 1);
        put(x, 0, 1);
        x.refresh();
        x.priced(2, 2);
        x.priced(3, 3);
        x.delete(0);
        x.setPrice(1, 2);
        int ahead = x.open();
        due.same("a deletion that was not refreshed", x.seen(ahead), 2);
        due.same("a price that was not refreshed", x.having(ahead, 0), 0);
        x.refresh();
        x.setPrice(1, 3);
        x.setPrice(1, 4);
        int behind = x.open();
        due.same("a deletion that was refreshed", x.seen(behind), 1);
        due.same("a price that was refreshed", x.having(behind, 0), 1);
        due.same("not the one behind it", x.having(behind, 1), 0);
        due.same("the other reader sees what it saw", x.seen(ahead), 2);
        x.refresh();
        int last = x.open();
        due.same("of several prices the last one", x.having(last, 0) + x.having(last, 1), 0);
    }

    /** How many segments there are behind refreshing as often as numbers of documents are given. */
    private static String merged(int... numbers) {
        HitHarbour x = new HitHarbour();
        StringBuilder told = new StringBuilder();
        for (int number : numbers) {
            putMany(x, number);
            told.append(x.refresh());
        }
        return told.toString();
    }

    private static void tierBounds() {
        due.same("two are not three", merged(1, 1), "12");
        due.same("1, 1 and 1", merged(1, 1, 1), "121");
        due.same("1, 1 and 2", merged(1, 1, 2), "123");
        due.same("2, 2 and 1", merged(2, 2, 1), "123");
        due.same("2, 3 and 2", merged(2, 3, 2), "121");
        due.same("3, 3 and 3", merged(3, 3, 3), "121");
        due.same("3, 3 and 4", merged(3, 3, 4), "123");
        due.same("4, 4 and 3", merged(4, 4, 3), "123");
        due.same("4, 7 and 4", merged(4, 7, 4), "121");
        due.same("7, 7 and 7", merged(7, 7, 7), "121");
        due.same("7, 7 and 8", merged(7, 7, 8), "123");
        due.same("8, 8 and 7", merged(8, 8, 7), "123");
        due.same("8, 8 and 8", merged(8, 8, 8), "121");
    }

    private static void tierOfEachNumber() {
        int[] leastOfTiers = {1, 2, 4, 8, 16};
        for (int tier = 0; tier < 4; tier++) {
            int least = leastOfTiers[tier];
            for (int number = 1; number + 2 * least <= 24; number++) {
                boolean isSame = number >= least && number < leastOfTiers[tier + 1];
                due.same(least + ", " + least + " and " + number, merged(least, least, number), isSame ? "121" : "123");
            }
        }
    }

    private static void tierOfLiving() {
        HitHarbour x = new HitHarbour();
        putMany(x, 2);
        x.refresh();
        putMany(x, 4);
        x.refresh();
        putMany(x, 2);
        due.same("2, 4 and 2", x.refresh(), 3);
        x.delete(3);
        due.same("till refreshing", x.segments(), 3);
        due.same("2, 3 of 4, and 2", x.refresh(), 1);
        due.same("without the deleted one", segments(x), "0 1 2 4 5 6 7");
        x.delete(0);
        x.refresh();
        due.same("a deleted one stays where nothing is merged", segments(x), "0 1 2 4 5 6 7");
        HitHarbour y = new HitHarbour();
        putMany(y, 2);
        y.refresh();
        putMany(y, 2);
        y.refresh();
        y.delete(0);
        putMany(y, 2);
        due.same("1 of 2, 2 and 2", y.refresh(), 3);
    }

    private static void lowestTierFirst() {
        HitHarbour x = new HitHarbour();
        int[] numbers = {1, 1, 5, 2, 2};
        for (int number : numbers) {
            putMany(x, number);
            x.refresh();
        }
        due.same("tiers 1 1 3 2 2", segments(x), "0|1|2 3 4 5 6|7 8|9 10");
        x.delete(2);
        x.delete(3);
        putMany(x, 1);
        due.same("tiers 1 1 2 2 2 1", x.refresh(), 2);
        due.same("the ones merge ahead of the others", segments(x), "0 1 4 5 6 7 8 11|9 10");
    }

    private static void firstThreeOfMore() {
        HitHarbour x = new HitHarbour();
        int[] numbers = {1, 2, 2, 1, 8};
        for (int number : numbers) {
            putMany(x, number);
            x.refresh();
        }
        due.same("tiers 1 2 2 1 4", segments(x), "0|1 2|3 4|5|6 7 8 9 10 11 12 13");
        x.delete(1);
        x.delete(4);
        due.same("four of tier 1", x.refresh(), 3);
        due.same("the first three become one, the fourth stays", segments(x), "0 2 3|5|6 7 8 9 10 11 12 13");
        HitHarbour y = new HitHarbour();
        int[] others = {8, 2, 4, 2, 4};
        for (int number : others) {
            putMany(y, number);
            y.refresh();
        }
        due.same("tiers 4 2 3 2 3", y.segments(), 5);
        putMany(y, 3);
        due.same("with others between, then those of tier 3", y.refresh(), 2);
        due.same("in the place of the first", y.segmentAt(1, 0), 8);
        due.same("by rising numbers", y.segmentAt(1, 14), 22);
    }

    private static void mergingOnAndOn() {
        HitHarbour x = new HitHarbour();
        StringBuilder told = new StringBuilder();
        for (int document = 0; document < 24; document++) {
            x.add(0, 0, -1);
            told.append(x.refresh());
        }
        due.same("one by one", told.toString(), "121232341232343452343454");
        due.same("all are there", x.documents(), 24);
        due.same("and sound", x.isSound(), true);
        HitHarbour y = new HitHarbour();
        int[] numbers = {4, 4, 2, 2, 1, 1};
        for (int number : numbers) {
            putMany(y, number);
            y.refresh();
        }
        due.same("two of each tier", y.segments(), 6);
        putMany(y, 1);
        due.same("one more merges them all, tier by tier", y.refresh(), 1);
        due.same("from the first place", y.segmentAt(0, 14), 14);
    }

    private static void emptySegments() {
        HitHarbour x = new HitHarbour();
        putMany(x, 1);
        x.refresh();
        putMany(x, 1);
        x.refresh();
        x.delete(0);
        due.same("till refreshing it is there", x.segments(), 2);
        putMany(x, 1);
        due.same("an empty one is not merged with two others", x.refresh(), 2);
        due.same("but goes", segments(x), "1|2");
        x.delete(1);
        x.delete(2);
        due.same("all can go", x.refresh(), 0);
        due.range("then none is there", () -> x.segmentAt(0, 0));
        HitHarbour y = new HitHarbour();
        putMany(y, 4);
        y.refresh();
        putMany(y, 1);
        y.refresh();
        for (int document = 0; document < 4; document++) {
            y.delete(document);
        }
        due.same("the others stay in their order", y.refresh(), 1);
        due.same("that is it", segments(y), "4");
    }

    private static void draftIsEmptyThen() {
        HitHarbour x = new HitHarbour();
        draft(x, 0, 1, 1);
        draft(x, 1, 1);
        x.add(0, 0, -1);
        due.same("an empty draft makes a document too", x.add(0, 0, -1), 1);
        x.term(0, 1);
        x.term(1, 1);
        int r = reader(x);
        due.same("field 0", found(x, r, 0), "0:600");
        due.same("field 1", found(x, r, 1), "0:375");
        due.same("the document without words is there", x.seen(r), 2);
        due.same("words come from 1 in field 0", x.draft(0, 2), 1);
        due.same("words come from 1 in field 1", x.draft(1, 2), 1);
    }

    private static void addColour() {
        HitHarbour x = new HitHarbour();
        for (int colour = 0; colour <= 5; colour++) {
            due.same("colour " + colour, x.add(colour, 0, -1), colour);
            x.coloured(colour);
        }
        int r = reader(x);
        for (int colour = 0; colour <= 5; colour++) {
            due.same("one of colour " + colour, found(x, r, colour), colour + ":0");
        }
    }

    private static void addPrice() {
        HitHarbour x = new HitHarbour();
        int[] prices = {0, 1, 998, 999};
        for (int price : prices) {
            x.add(0, price, -1);
            x.priced(price, price);
        }
        int r = reader(x);
        for (int n = 0; n < prices.length; n++) {
            due.same("price " + prices[n], found(x, r, n), n + ":0");
        }
    }

    private static void addParent() {
        HitHarbour x = new HitHarbour();
        due.same("none", x.add(0, 0, -1), 0);
        due.same("the least number", x.add(0, 0, 0), 1);
        due.same("again", x.add(0, 0, 0), 2);
        putMany(x, 20);
        due.same("the greatest that can be one", x.add(0, 0, 22), 23);
        x.coloured(0);
        x.parents(0);
        due.same("both are parents", found(x, reader(x), 1), "0:0 22:0");
    }

    private static void addOutOfRange() {
        for (int colour : new int[] {-1, 6, Integer.MIN_VALUE, Integer.MAX_VALUE}) {
            Harbours.argument(Harbours.BUSY, "colour " + colour, x -> x.add(colour, 0, -1));
        }
        for (int price : new int[] {-1, 1000, Integer.MIN_VALUE, Integer.MAX_VALUE}) {
            Harbours.argument(Harbours.BUSY, "price " + price, x -> x.add(0, price, -1));
            Harbours.argument(Harbours.FRESH, "of the first one, price " + price, x -> x.add(5, price, -1));
        }
    }

    private static void addNoParent() {
        Harbours.element(Harbours.FRESH, "none is there", x -> x.add(0, 0, 0));
        int[] none = {-2, 6, 23, 24, 31, 32, Integer.MIN_VALUE, Integer.MAX_VALUE};
        for (int parent : none) {
            Harbours.element(Harbours.BUSY, "parent " + parent, x -> x.add(0, 0, parent));
        }
        Harbours.element(Harbours.BUSY, "it was deleted", x -> x.add(0, 0, 3));
        Harbours.element(Harbours.BUSY, "it has a parent and was deleted", x -> x.add(0, 0, 1));
        Harbours.element(Harbours.FULL, "it has a parent", x -> x.add(0, 0, 5));
        HitHarbour x = new HitHarbour();
        put(x, 0, 0);
        child(x, 0);
        due.element("it has a parent that is there", () -> x.add(0, 0, 1));
        x.commit();
        put(x, 0, 0);
        x.crash();
        due.element("it was lost", () -> x.add(0, 0, 2));
        x.delete(0);
        due.element("it was deleted", () -> x.add(0, 0, 0));
        x.crash();
        due.same("that was lost", x.add(0, 0, 0), 2);
    }

    private static void addFull() {
        Harbours.state(Harbours.FULL, "a document more", x -> x.add(0, 0, -1));
        Harbours.state(Harbours.FULL, "a child more", x -> x.add(5, 999, 0));
        Harbours.state(Harbours.busyWith(18, x -> x.add(1, 1, -1)), "only documents are full", x -> x.add(0, 0, -1));
        HitHarbour x = new HitHarbour();
        putMany(x, 23);
        x.commit();
        due.same("the last number", x.add(0, 0, -1), 23);
        due.state("there were 24", () -> x.add(0, 0, -1));
        x.sync();
        x.crash();
        due.state("still", () -> x.add(0, 0, -1));
        x.delete(23);
        due.state("one of them was deleted", () -> x.add(0, 0, -1));
        HitHarbour y = new HitHarbour();
        putMany(y, 23);
        y.commit();
        putMany(y, 1);
        y.crash();
        due.same("one of them was lost", y.add(0, 0, -1), 23);
    }

    private static void deleteNumber() {
        HitHarbour x = new HitHarbour();
        putMany(x, 1);
        due.same("without children", x.delete(0), 1);
        HitHarbour y = new HitHarbour();
        putMany(y, 1);
        for (int number = 1; number < 24; number++) {
            child(y, 0);
        }
        due.same("with 23 children", y.delete(0), 24);
        due.same("none is left", y.documents(), 0);
        HitHarbour z = new HitHarbour();
        putMany(z, 2);
        child(z, 0);
        child(z, 1);
        child(z, 0);
        due.same("a child", z.delete(2), 1);
        due.same("with the child that is left", z.delete(0), 2);
        due.same("the other parent has its own", z.delete(1), 2);
    }

    private static void deleteThrows() {
        Harbours.element(Harbours.FRESH, "none is there", x -> x.delete(0));
        for (int document : new int[] {-1, 6, 23, 24, 31, 32, Integer.MIN_VALUE, Integer.MAX_VALUE}) {
            Harbours.element(Harbours.BUSY, "document " + document, x -> x.delete(document));
        }
        Harbours.element(Harbours.BUSY, "it was deleted", x -> x.delete(1));
        Harbours.element(Harbours.BUSY, "it was deleted in a segment", x -> x.delete(3));
        Harbours.element(Harbours.FULL, "it was deleted in a full one", x -> x.delete(2));
        Harbours.element(Harbours.FULL, "one behind the last", x -> x.delete(24));
        HitHarbour x = new HitHarbour();
        putMany(x, 1);
        child(x, 0);
        x.delete(0);
        due.element("it was deleted with its parent", () -> x.delete(1));
        x.crash();
        due.element("it was lost", () -> x.delete(0));
    }

    private static void leastAndGreatestPrice() {
        HitHarbour x = new HitHarbour();
        x.add(0, 5, -1);
        x.priced(0, 0);
        x.priced(999, 999);
        due.same("the least", x.setPrice(0, 0), 5);
        int r = reader(x);
        due.same("it is there", x.having(r, 0), 1);
        due.same("the greatest", x.setPrice(0, 999), 0);
        int s = reader(x);
        due.same("that is there", x.having(s, 1), 1);
        due.same("and the least is not", x.having(s, 0), 0);
    }

    private static void priceBefore() {
        HitHarbour x = new HitHarbour();
        x.add(0, 999, -1);
        due.same("the first", x.setPrice(0, 7), 999);
        due.same("not refreshed", x.setPrice(0, 7), 7);
        x.commit();
        due.same("the same", x.setPrice(0, 8), 7);
        x.sync();
        due.same("synced", x.setPrice(0, 9), 8);
        x.crash();
        due.same("the one that was lost is not before", x.setPrice(0, 0), 8);
    }

    private static void priceNoDocument() {
        Harbours.element(Harbours.FRESH, "none is there", x -> x.setPrice(0, 0));
        for (int document : new int[] {-1, 6, 23, 24, 31, 32, Integer.MIN_VALUE, Integer.MAX_VALUE}) {
            Harbours.element(Harbours.BUSY, "document " + document, x -> x.setPrice(document, 5));
        }
        Harbours.element(Harbours.BUSY, "it was deleted", x -> x.setPrice(1, 5));
        Harbours.element(Harbours.BUSY, "it was deleted in a segment", x -> x.setPrice(3, 5));
        Harbours.element(Harbours.FULL, "one behind the last", x -> x.setPrice(24, 5));
    }

    private static void priceOutOfRange() {
        for (int price : new int[] {-1, 1000, Integer.MIN_VALUE, Integer.MAX_VALUE}) {
            Harbours.argument(Harbours.BUSY, "price " + price, x -> x.setPrice(0, price));
            Harbours.argument(Harbours.FULL, "of the last one, price " + price, x -> x.setPrice(23, price));
        }
    }

    private static void refreshNumber() {
        HitHarbour x = new HitHarbour();
        due.same("nothing at all", x.refresh(), 0);
        int[] numbers = {8, 4, 4, 2, 2, 1, 1};
        for (int n = 0; n < numbers.length; n++) {
            putMany(x, numbers[n]);
            due.same("as many as there can be", x.refresh(), n + 1);
        }
        due.same("nothing more", x.refresh(), 7);
        due.same("the last one", x.segmentAt(6, 0), 21);
        due.range("and no other", () -> x.segmentAt(7, 0));
    }
}
