/** Edges of words and of the draft: the terms' part "Words" and promises 2 to 5. */
final class WordEdges extends Calls {
    private static final int[] NO_WORDS = {-1, 31, Integer.MIN_VALUE, Integer.MAX_VALUE};

    private WordEdges() {
    }

    static void all(Edges edges) {
        edges.of(0, "Words are numbers from 0 to 30.", WordEdges::leastAndGreatestWord);
        String analysed = "As a document is added, each word of its draft is analysed: it becomes what it is folded"
                + " to, if told, once; it is dropped, with nothing more, if that is a stop word; and it is joined by"
                + " another word in its place, as it is, if that is told for what it became.";
        edges.of(0, analysed, WordEdges::foldedOnce);
        edges.of(0, analysed, WordEdges::droppedWithNothingMore);
        edges.of(0, analysed, WordEdges::joinedAsItIs);
        String position = "A word has a position, the number of words of the draft ahead of it in its field, those"
                + " that are dropped counted, those that join in not.";
        edges.of(0, position, WordEdges::droppedOnesAreCounted);
        edges.of(0, position, WordEdges::joiningOnesAreNotCounted);
        edges.of(0, position, WordEdges::eachFieldHasItsPositions);
        edges.of(0, "What is told later has no effect on documents that are there.", WordEdges::toldLater);
        edges.of(0, "Words in queries are taken as they are.", WordEdges::wordsInQueries);
        foldEdges(edges);
        stopEdges(edges);
        joinEdges(edges);
        draftEdges(edges);
    }

    private static void foldEdges(Edges edges) {
        edges.of(2, "- `word`: the word, 0 to 30", WordEdges::foldWord);
        edges.of(2, "- `to`: the word to which it is folded; the same for none", WordEdges::foldToItself);
        edges.of(2, "Returns the word to which it was.", WordEdges::foldedBefore);
        edges.of(2, "Throws `IllegalArgumentException` if there is no such word, for either", WordEdges::foldThrows);
    }

    private static void stopEdges(Edges edges) {
        edges.of(3, "- `word`: the word, 0 to 30", WordEdges::stopWord);
        edges.of(3, "Returns whether it was.", WordEdges::stopBefore);
        edges.of(3, "Throws `IllegalArgumentException` if there is no such word", WordEdges::stopThrows);
    }

    private static void joinEdges(Edges edges) {
        edges.of(4, "- `word`: the word, 0 to 30", WordEdges::joinWord);
        edges.of(4, "- `other`: the word that joins it, or -1 for none", WordEdges::joinNone);
        edges.of(4, "Returns the one that did, or -1.", WordEdges::joinBefore);
        edges.of(4, "Throws `IllegalArgumentException` if there is no such word, for either, or both are the same",
                WordEdges::joinThrows);
    }

    private static void draftEdges(Edges edges) {
        edges.of(5, "- `field`: the field, 0 or 1", WordEdges::draftField);
        edges.of(5, "- `word`: the word, 0 to 30", WordEdges::draftWord);
        edges.of(5, "Returns the number of words of the field.", WordEdges::draftNumber);
        edges.of(5, "Throws `IndexOutOfBoundsException` if there is no such field", WordEdges::draftNoField);
        edges.of(5, "Throws `IllegalArgumentException` if there is no such word", WordEdges::draftNoWord);
        edges.of(5, "Throws `IllegalStateException` if it has 10 words", WordEdges::draftFull);
    }

    private static void leastAndGreatestWord() {
        for (int word = 0; word <= 30; word += 30) {
            HitHarbour x = new HitHarbour();
            due.same("a word is folded to itself at first", x.fold(word, word), word);
            due.same("none is a stop word at first", x.setStop(word, false), false);
            due.same("none is joined at first", x.joinTo(word, 15), -1);
            due.same("none joins at first", x.joinTo(15, word), -1);
            x.draft(0, word);
            x.draft(1, 15);
            x.add(0, 0, -1);
            x.term(0, word);
            x.term(1, word);
            x.phrase(0, word, word, -1, 9, false);
            int r = reader(x);
            due.same("a document has it", found(x, r, 0), "0:200");
            due.same("a document has it as it joins", found(x, r, 1), "0:200");
            due.same("one is not two", found(x, r, 2), "");
        }
    }

    private static void foldedOnce() {
        HitHarbour x = new HitHarbour();
        x.fold(1, 2);
        x.fold(2, 3);
        x.fold(10, 11);
        x.fold(11, 10);
        put(x, 0, 0, 1);
        put(x, 1, 0, 10);
        put(x, 2, 0, 11);
        for (int word : new int[] {1, 2, 3, 10, 11}) {
            x.term(0, word);
        }
        int r = reader(x);
        due.same("not what it was", x.having(r, 0), 0);
        due.same("folded once", found(x, r, 1), "0:500");
        due.same("not twice", x.having(r, 2), 0);
        due.same("in a ring, the one", found(x, r, 3), "2:500");
        due.same("in a ring, the other", found(x, r, 4), "1:500");
    }

    private static void droppedWithNothingMore() {
        HitHarbour x = new HitHarbour();
        x.fold(1, 2);
        x.setStop(2, true);
        x.joinTo(2, 3);
        x.setStop(4, true);
        x.fold(4, 5);
        put(x, 0, 0, 1, 4);
        put(x, 0, 0, 2);
        for (int word = 1; word <= 5; word++) {
            x.term(0, word);
        }
        int r = reader(x);
        due.same("what it was is not there", x.having(r, 0), 0);
        due.same("nor what it became", x.having(r, 1), 0);
        due.same("nor what joins that", x.having(r, 2), 0);
        due.same("a stop word that is folded is not there", x.having(r, 3), 0);
        due.same("but what it became, alone", found(x, r, 4), "0:375");
    }

    private static void joinedAsItIs() {
        HitHarbour x = new HitHarbour();
        x.joinTo(1, 2);
        x.fold(2, 3);
        x.setStop(2, true);
        x.joinTo(2, 4);
        x.fold(6, 1);
        x.joinTo(6, 5);
        put(x, 0, 0, 6);
        for (int word = 1; word <= 6; word++) {
            x.term(0, word);
        }
        x.phrase(0, 1, 2, -1, 9, false);
        int r = reader(x);
        due.same("what it became", found(x, r, 0), "0:200");
        due.same("what joins it, though a stop word", found(x, r, 1), "0:200");
        due.same("that is not folded", x.having(r, 2), 0);
        due.same("nor joined", x.having(r, 3), 0);
        due.same("what is told for the word that it was", x.having(r, 4), 0);
        due.same("what it was", x.having(r, 5), 0);
        due.same("both have one place", x.having(r, 6), 0);
    }

    /** Words 1 and 2 at the first and the last of ten positions, with eight of another between. */
    private static void putFarApart(HitHarbour x, int between) {
        put(x, 0, 0, 1, between, between, between, between, between, between, between, between, 2);
        x.phrase(0, 1, 2, -1, 8, true);
        x.phrase(0, 1, 2, -1, 7, true);
    }

    private static void droppedOnesAreCounted() {
        HitHarbour x = new HitHarbour();
        x.setStop(9, true);
        putFarApart(x, 9);
        put(x, 0, 0, 9, 1, 2);
        int r = reader(x);
        due.same("positions 0 and 9", found(x, r, 0), "0:200 1:200");
        due.same("not 0 and 8", found(x, r, 1), "1:300");
    }

    private static void joiningOnesAreNotCounted() {
        HitHarbour x = new HitHarbour();
        x.joinTo(9, 8);
        x.joinTo(1, 7);
        putFarApart(x, 9);
        int r = reader(x);
        due.same("positions 0 and 9, and no more", found(x, r, 0), "0:45");
        due.same("not 0 and 8", found(x, r, 1), "");
    }

    private static void eachFieldHasItsPositions() {
        HitHarbour x = new HitHarbour();
        x.draft(0, 1);
        draft(x, 1, 1, 5, 5, 5, 2);
        x.draft(0, 2);
        x.add(0, 0, -1);
        x.phrase(0, 1, 2, -1, 0, true);
        x.phrase(1, 1, 2, -1, 2, true);
        x.phrase(1, 1, 2, -1, 3, true);
        int r = reader(x);
        due.same("words of field 1 are not ahead in field 0", found(x, r, 0), "0:200");
        due.same("nor those of field 0 in field 1", found(x, r, 1), "");
        due.same("which has its own", found(x, r, 2), "0:125");
    }

    private static void toldLater() {
        HitHarbour x = new HitHarbour();
        put(x, 0, 0, 1);
        x.commit();
        put(x, 0, 0, 1);
        x.sync();
        x.fold(1, 2);
        x.joinTo(1, 3);
        x.joinTo(2, 3);
        x.setStop(1, true);
        x.setStop(2, true);
        for (int word = 1; word <= 3; word++) {
            x.term(0, word);
        }
        int r = reader(x);
        due.same("in a segment and in the buffer", found(x, r, 0), "0:250 1:250");
        due.same("folding", x.having(r, 1), 0);
        due.same("joining", x.having(r, 2), 0);
        x.crash();
        int s = reader(x);
        due.same("behind a crash", found(x, s, 0), "0:250 1:250");
        due.same("folding, behind a crash", x.having(s, 1), 0);
        due.same("joining, behind a crash", x.having(s, 2), 0);
    }

    private static void wordsInQueries() {
        HitHarbour x = new HitHarbour();
        put(x, 0, 0, 1, 1);
        x.fold(1, 2);
        x.setStop(2, true);
        x.joinTo(1, 3);
        put(x, 0, 0, 1, 1, 3);
        put(x, 0, 0, 3);
        x.term(0, 1);
        x.term(0, 2);
        x.phrase(0, 1, 1, -1, 0, true);
        int r = reader(x);
        due.same("not folded, dropped or joined", found(x, r, 0), "0:800");
        due.same("a stop word is asked for", x.having(r, 1), 0);
        due.same("in a phrase", found(x, r, 2), "0:400");
        x.keep(0);
        x.draft(0, 1);
        due.same("in a stored query", x.met(0, 0), 0);
        x.setStop(2, false);
        x.fold(2, 1);
        x.draft(0, 2);
        due.same("what becomes the word", x.met(0, 0), 1);
    }

    private static void foldWord() {
        HitHarbour x = new HitHarbour();
        due.same("the least", x.fold(0, 30), 0);
        due.same("the greatest", x.fold(30, 0), 30);
        put(x, 0, 0, 0);
        put(x, 1, 0, 30, 30);
        x.term(0, 0);
        x.term(0, 30);
        int r = reader(x);
        due.same("the greatest became the least", found(x, r, 0), "1:600");
        due.same("the least became the greatest", found(x, r, 1), "0:375");
    }

    private static void foldToItself() {
        HitHarbour x = new HitHarbour();
        x.fold(7, 8);
        due.same("ends folding", x.fold(7, 7), 8);
        due.same("is none", x.fold(7, 7), 7);
        put(x, 0, 0, 7);
        x.term(0, 7);
        due.same("the word is as it is", found(x, reader(x), 0), "0:250");
    }

    private static void foldedBefore() {
        HitHarbour x = new HitHarbour();
        for (int word = 0; word <= 30; word++) {
            due.same("itself at first", x.fold(word, 30 - word), word);
        }
        for (int word = 0; word <= 30; word++) {
            due.same("then what was told", x.fold(word, word), 30 - word);
        }
    }

    private static void foldThrows() {
        for (int word : NO_WORDS) {
            Harbours.argument(Harbours.BUSY, "fold " + word, x -> x.fold(word, 0));
            Harbours.argument(Harbours.BUSY, "fold to " + word, x -> x.fold(5, word));
            Harbours.argument(Harbours.FRESH, "fold both " + word, x -> x.fold(word, word));
        }
    }

    private static void stopWord() {
        HitHarbour x = new HitHarbour();
        due.same("the least", x.setStop(0, true), false);
        due.same("the greatest", x.setStop(30, true), false);
        put(x, 0, 0, 0, 30, 1, 29);
        for (int word : new int[] {0, 30, 1, 29}) {
            x.term(0, word);
        }
        int r = reader(x);
        due.same("the least is dropped", x.having(r, 0), 0);
        due.same("the greatest is dropped", x.having(r, 1), 0);
        due.same("the next one is not", found(x, r, 2), "0:200");
        due.same("nor the one ahead", found(x, r, 3), "0:200");
    }

    private static void stopBefore() {
        HitHarbour x = new HitHarbour();
        for (int word = 0; word <= 30; word++) {
            due.same("not at first", x.setStop(word, word % 2 == 0), false);
        }
        for (int word = 0; word <= 30; word++) {
            due.same("then what was told", x.setStop(word, true), word % 2 == 0);
            due.same("the same again", x.setStop(word, false), true);
        }
        due.same("no more", x.setStop(30, false), false);
    }

    private static void stopThrows() {
        for (int word : NO_WORDS) {
            Harbours.argument(Harbours.BUSY, "stop " + word, x -> x.setStop(word, true));
            Harbours.argument(Harbours.BUSY, "no stop " + word, x -> x.setStop(word, false));
        }
    }

    private static void joinWord() {
        HitHarbour x = new HitHarbour();
        due.same("the least", x.joinTo(0, 30), -1);
        due.same("the greatest", x.joinTo(30, 0), -1);
        put(x, 0, 0, 0);
        put(x, 0, 0, 30);
        x.term(0, 0);
        x.term(0, 30);
        int r = reader(x);
        due.same("the least is in both", found(x, r, 0), "0:200 1:200");
        due.same("the greatest is in both", found(x, r, 1), "0:200 1:200");
    }

    private static void joinNone() {
        HitHarbour x = new HitHarbour();
        due.same("none, where there was none", x.joinTo(3, -1), -1);
        x.joinTo(3, 4);
        due.same("none", x.joinTo(3, -1), 4);
        put(x, 0, 0, 3);
        x.term(0, 3);
        x.term(0, 4);
        int r = reader(x);
        due.same("the word is alone", found(x, r, 0), "0:250");
        due.same("nothing joins it", x.having(r, 1), 0);
    }

    private static void joinBefore() {
        HitHarbour x = new HitHarbour();
        due.same("none at first", x.joinTo(9, 0), -1);
        due.same("the least", x.joinTo(9, 30), 0);
        due.same("the greatest", x.joinTo(9, 30), 30);
        due.same("the same again", x.joinTo(9, -1), 30);
        due.same("none", x.joinTo(9, -1), -1);
        due.same("others have none", x.joinTo(8, -1), -1);
    }

    private static void joinThrows() {
        for (int word : NO_WORDS) {
            Harbours.argument(Harbours.BUSY, "join " + word, x -> x.joinTo(word, 0));
            Harbours.argument(Harbours.BUSY, "join none to " + word, x -> x.joinTo(word, -1));
        }
        for (int other : new int[] {-2, 31, Integer.MIN_VALUE, Integer.MAX_VALUE}) {
            Harbours.argument(Harbours.BUSY, "join by " + other, x -> x.joinTo(1, other));
        }
        for (int word : new int[] {0, 1, 30}) {
            Harbours.argument(Harbours.BUSY, "both are " + word, x -> x.joinTo(word, word));
        }
    }

    private static void draftField() {
        HitHarbour x = new HitHarbour();
        due.same("field 0", x.draft(0, 1), 1);
        due.same("field 1", x.draft(1, 2), 1);
        x.add(0, 0, -1);
        x.term(0, 1);
        x.term(1, 1);
        x.term(0, 2);
        x.term(1, 2);
        int r = reader(x);
        due.same("the word of field 0", x.having(r, 0), 1);
        due.same("is not in field 1", x.having(r, 1), 0);
        due.same("the word of field 1 is not in field 0", x.having(r, 2), 0);
        due.same("but there", x.having(r, 3), 1);
    }

    private static void draftWord() {
        HitHarbour x = new HitHarbour();
        due.same("the least", x.draft(0, 0), 1);
        due.same("the greatest", x.draft(0, 30), 2);
        x.add(0, 0, -1);
        x.phrase(0, 0, 30, -1, 0, true);
        due.same("both are there", found(x, reader(x), 0), "0:200");
    }

    private static void draftNumber() {
        HitHarbour x = new HitHarbour();
        for (int field = 0; field <= 1; field++) {
            for (int number = 1; number <= 10; number++) {
                due.same("the same word counts each time", x.draft(field, 7), number);
            }
        }
        x.add(0, 0, -1);
        x.setStop(7, true);
        due.same("from 1 again", x.draft(0, 7), 1);
        due.same("words to be dropped count", x.draft(0, 7), 2);
        due.same("each field for itself", x.draft(1, 7), 1);
    }

    private static void draftNoField() {
        for (int field : new int[] {-1, 2, Integer.MIN_VALUE, Integer.MAX_VALUE}) {
            Harbours.range(Harbours.BUSY, "field " + field, x -> x.draft(field, 0));
            Harbours.range(Harbours.FULL, "full, field " + field, x -> x.draft(field, 30));
        }
    }

    private static void draftNoWord() {
        for (int word : NO_WORDS) {
            Harbours.argument(Harbours.BUSY, "word " + word, x -> x.draft(0, word));
            Harbours.argument(Harbours.FRESH, "first word " + word, x -> x.draft(1, word));
        }
    }

    private static void draftFull() {
        for (int n = 0; n <= 1; n++) {
            int field = n;
            Harbours.state(Harbours.FULL, "an eleventh word in field " + field, x -> x.draft(field, 0));
            Harbours.state(Harbours.busyWith(9, x -> x.draft(field, 2)), "where a document has room, in field " + field,
                    x -> x.draft(field, 1));
            HitHarbour x = new HitHarbour();
            for (int number = 1; number <= 10; number++) {
                x.draft(field, number);
            }
            due.state("an eleventh word", () -> x.draft(field, 11));
            due.same("the other field has room", x.draft(1 - field, 11), 1);
            x.met(0, 0);
            due.state("meeting leaves no room", () -> x.draft(field, 11));
            x.crash();
            due.state("nor does a crash", () -> x.draft(field, 11));
            x.add(0, 0, -1);
            x.term(field, 10);
            x.term(field, 11);
            int r = reader(x);
            due.same("the tenth is there", found(x, r, 0), "0:76");
            due.same("the eleventh is not", x.having(r, 1), 0);
            due.same("then there is room", x.draft(field, 11), 1);
        }
    }
}
