/** Edges of what matches a query, and by which score: the terms' part "Queries". */
final class MatchEdges extends Calls {
    private MatchEdges() {
    }

    static void all(Edges edges) {
        edges.of(0, "A document of a reader matches, and has a score, which is 0 where none is told, as follows.",
                MatchEdges::noScore);
        edges.of(0, "A term: a field and a word: those with the word in the field; a score by how often, which is at"
                + " how many positions.", MatchEdges::termHowOften);
        phraseTerms(edges);
        edges.of(0, "A price range: from a least price to a greatest one.", MatchEdges::priceBounds);
        String boosted = "Boosted: as another query, its score times a number from 1 to 9.";
        edges.of(0, boosted, MatchEdges::boostedAsAnother);
        String parents = "Parents: documents without a parent that are the parent of one of the reader's that matches"
                + " another query, with the greatest score of these.";
        edges.of(0, parents, MatchEdges::parentsOfNone);
        edges.of(0, parents, MatchEdges::parentsOfMany);
        edges.of(0, parents, MatchEdges::parentsByScoresBelowZero);
        setTerms(edges);
        edges.of(0, "All scores wrap.", MatchEdges::boostedWraps);
        edges.of(0, "All scores wrap.", MatchEdges::sumsWrap);
        edges.of(0, "All scores wrap.", MatchEdges::wrappedScoresAreOrdered);
        scoreTerms(edges);
    }

    private static void phraseTerms(Edges edges) {
        String phrase = "A phrase: a field, 2 or 3 words, and a slop from 0 to 9: those with a match; a match is a"
                + " position of each word, all different, in rising order if it is ordered, such that the greatest one"
                + " less the least one is at most the slop plus the number of words less 1; how often is the number of"
                + " positions that are the least one of some match.";
        edges.of(0, phrase, MatchEdges::phraseReachOfTwo);
        edges.of(0, phrase, MatchEdges::phraseReachOfThree);
        edges.of(0, phrase, MatchEdges::phraseDifferentPositions);
        edges.of(0, phrase, MatchEdges::phraseEachWord);
        edges.of(0, phrase, MatchEdges::phraseOrder);
        edges.of(0, phrase, MatchEdges::phraseMostOften);
        edges.of(0, phrase, MatchEdges::phraseLeastPositions);
    }

    private static void setTerms(Edges edges) {
        String set = "A set: clauses, each a query with a kind, up to 6, and a number of how many of kind 's' must"
                + " match at least; it matches if all of kind 'm' and 'f' match, none of kind 'n', and at least that"
                + " many of 's', and, if there are neither 'm' nor 'f' and that number is 0, one at least; its score"
                + " is the sum of those of 'm' and 's' that match.";
        edges.of(0, set, MatchEdges::setOfOne);
        edges.of(0, set, MatchEdges::setWithoutMust);
        edges.of(0, set, MatchEdges::setWithMust);
        edges.of(0, set, MatchEdges::setOfSix);
        edges.of(0, set, MatchEdges::setSums);
        edges.of(0, set, MatchEdges::setSumsOfSets);
    }

    private static void scoreTerms(Edges edges) {
        String score = "The score of a term or a phrase is 1000 times how often, times (the number of documents plus"
                + " 1), divided by (the number of those that match it plus 1), and that divided by (the length of the"
                + " field plus 3), each rounded down; these are the documents of the reader, or, by local facts, those"
                + " of its segment of the reader.";
        edges.of(0, score, MatchEdges::leastAndGreatestScore);
        edges.of(0, score, MatchEdges::scoresRoundedDown);
        edges.of(0, score, MatchEdges::scoresOfAPhrase);
        edges.of(0, score, MatchEdges::localScores);
        edges.of(0, score, MatchEdges::factsWithoutDeletedOnes);
    }

    private static void noScore() {
        HitHarbour x = new HitHarbour();
        put(x, 2, 30, 1);
        x.coloured(2);
        x.priced(30, 30);
        x.boosted(0, 9);
        x.parents(1);
        setOf(x, 0, "f0");
        setOf(x, 0, "m0s1");
        int r = reader(x);
        String[] want = {"0:0", "0:0", "0:0", "", "0:0", "0:0"};
        for (int query = 0; query < want.length; query++) {
            due.same("query " + query, found(x, r, query), want[query]);
            due.same("by local facts, query " + query, found(x, r, query, true), want[query]);
        }
        due.same("the score is 0", x.score(r, 0, 0, false), 0);
    }

    private static void termHowOften() {
        HitHarbour x = new HitHarbour();
        x.joinTo(3, 1);
        put(x, 0, 0, 2, 2, 2, 2, 2, 2, 2, 2, 2);
        put(x, 0, 0, 2, 2, 2, 2, 2, 2, 2, 2, 2, 1);
        put(x, 0, 0, 1, 1, 1, 1, 1, 1, 1, 1, 1, 1);
        draft(x, 1, 1, 1, 1, 1, 1, 1, 1, 1, 1, 1);
        x.add(0, 0, -1);
        put(x, 0, 0, 3, 1);
        x.term(0, 1);
        x.term(1, 1);
        x.term(0, 3);
        int r = reader(x);
        due.same("none, one, ten, and as one that joins", found(x, r, 0), "2:1153 4:500 1:115");
        due.same("in the other field", found(x, r, 1), "3:2307");
        due.same("what is joined", found(x, r, 2), "4:500");
    }

    private static void phraseReachOfTwo() {
        HitHarbour x = new HitHarbour();
        put(x, 0, 0, 1, 2);
        put(x, 0, 0, 1, 9, 2);
        put(x, 0, 0, 1, 9, 9, 9, 9, 9, 9, 9, 9, 2);
        x.phrase(0, 1, 2, -1, 0, true);
        x.phrase(0, 1, 2, -1, 1, true);
        x.phrase(0, 1, 2, -1, 7, true);
        x.phrase(0, 1, 2, -1, 8, true);
        x.phrase(0, 1, 2, -1, 9, true);
        x.phrase(0, 2, 1, -1, 7, false);
        x.phrase(0, 2, 1, -1, 8, false);
        int r = reader(x);
        String[] want = {"0:400", "0:266 1:222", "0:266 1:222", "0:200 1:166 2:76", "0:200 1:166 2:76",
            "0:266 1:222", "0:200 1:166 2:76"};
        for (int query = 0; query < want.length; query++) {
            due.same("phrase " + query, found(x, r, query), want[query]);
        }
    }

    private static void phraseReachOfThree() {
        HitHarbour x = new HitHarbour();
        put(x, 0, 0, 1, 2, 3);
        put(x, 0, 0, 1, 9, 2, 3);
        put(x, 0, 0, 1, 2, 9, 9, 9, 9, 9, 9, 9, 3);
        int number = 0;
        for (int slop : new int[] {0, 1, 6, 7, 9}) {
            x.phrase(0, 1, 2, 3, slop, true);
            x.phrase(0, 3, 1, 2, slop, false);
            number += 2;
        }
        int r = reader(x);
        String[] want = {"0:333", "0:222 1:190", "0:222 1:190", "0:166 1:142 2:76", "0:166 1:142 2:76"};
        for (int query = 0; query < number; query++) {
            due.same("phrase " + query, found(x, r, query), want[query / 2]);
        }
    }

    private static void phraseDifferentPositions() {
        HitHarbour x = new HitHarbour();
        x.joinTo(1, 2);
        x.joinTo(2, 3);
        put(x, 0, 0, 1);
        put(x, 0, 0, 1, 3);
        put(x, 0, 0, 3, 1);
        put(x, 0, 0, 4, 4);
        put(x, 0, 0, 4, 4, 4);
        x.phrase(0, 1, 2, -1, 9, false);
        x.phrase(0, 1, 2, 3, 9, false);
        x.phrase(0, 1, 1, -1, 9, false);
        x.phrase(0, 4, 4, -1, 0, true);
        x.phrase(0, 4, 4, 4, 9, false);
        x.phrase(0, 4, 4, 4, 0, true);
        x.phrase(0, 2, 3, -1, 0, true);
        int r = reader(x);
        String[] want = {"", "", "", "4:666 3:400", "4:500", "4:500", "1:500"};
        for (int query = 0; query < want.length; query++) {
            due.same("phrase " + query, found(x, r, query), want[query]);
        }
        HitHarbour y = new HitHarbour();
        y.joinTo(1, 2);
        put(y, 0, 0, 1, 1);
        put(y, 0, 0, 3, 1);
        put(y, 0, 0, 3, 1, 9, 9, 2);
        y.phrase(0, 1, 2, -1, 0, true);
        y.phrase(0, 1, 2, 3, 9, false);
        int s = reader(y);
        due.same("of two words that have two positions both", found(y, s, 0), "0:285");
        due.same("two words with one position need another", found(y, s, 1), "2:222");
    }

    private static void phraseEachWord() {
        HitHarbour x = new HitHarbour();
        put(x, 0, 0, 1, 2, 2, 2);
        put(x, 0, 0, 2, 1, 1, 2);
        put(x, 0, 0, 1, 1, 1, 1);
        put(x, 0, 0, 3, 3, 2, 2);
        draft(x, 0, 1, 2);
        x.draft(1, 3);
        x.add(0, 0, -1);
        int[][] orders = {{1, 2, 3}, {1, 3, 2}, {2, 1, 3}, {2, 3, 1}, {3, 1, 2}, {3, 2, 1}};
        for (int[] order : orders) {
            x.phrase(0, order[0], order[1], order[2], 9, false);
            x.phrase(0, order[0], order[1], order[2], 9, true);
        }
        int r = reader(x);
        for (int query = 0; query < 12; query++) {
            due.same("with one that is not in the field, phrase " + query, found(x, r, query), "");
        }
    }

    private static void phraseOrder() {
        HitHarbour x = new HitHarbour();
        int[][] orders = {{1, 2, 3}, {1, 3, 2}, {2, 1, 3}, {2, 3, 1}, {3, 1, 2}, {3, 2, 1}};
        for (int[] order : orders) {
            put(x, 0, 0, order);
        }
        for (int[] order : orders) {
            x.phrase(0, order[0], order[1], order[2], 0, true);
        }
        x.phrase(0, 2, 3, 1, 0, false);
        x.phrase(0, 2, 1, -1, 1, true);
        int r = reader(x);
        for (int query = 0; query < orders.length; query++) {
            due.same("ordered, phrase " + query, found(x, r, query), query + ":583");
        }
        due.same("in any order", found(x, r, 6), "0:166 1:166 2:166 3:166 4:166 5:166");
        due.same("two of them in order", found(x, r, 7), "2:291 3:291 5:291");
        HitHarbour y = new HitHarbour();
        put(y, 0, 0, 2, 1, 2);
        put(y, 0, 0, 1, 3, 2, 3);
        y.phrase(0, 1, 2, -1, 0, true);
        y.phrase(0, 1, 2, 3, 1, true);
        int s = reader(y);
        due.same("one ahead does not hinder", found(y, s, 0), "0:250");
        due.same("a later one is taken", found(y, s, 1), "1:214");
    }

    private static void phraseMostOften() {
        HitHarbour x = new HitHarbour();
        put(x, 0, 0, 1, 1, 1, 1, 1, 1, 1, 1, 1, 1);
        for (int slop = 0; slop <= 9; slop += 9) {
            x.phrase(0, 1, 1, -1, slop, true);
            x.phrase(0, 1, 1, -1, slop, false);
            x.phrase(0, 1, 1, 1, slop, true);
            x.phrase(0, 1, 1, 1, slop, false);
        }
        int r = reader(x);
        for (int query = 0; query < 8; query++) {
            due.same("all but the last ones, phrase " + query, found(x, r, query), query % 4 < 2 ? "0:692" : "0:615");
        }
    }

    private static void phraseLeastPositions() {
        HitHarbour x = new HitHarbour();
        put(x, 0, 0, 1, 2, 2, 2);
        put(x, 0, 0, 1, 1, 1, 2);
        put(x, 0, 0, 2, 9, 9, 1, 2);
        x.phrase(0, 1, 2, -1, 2, true);
        x.phrase(0, 1, 2, -1, 2, false);
        x.phrase(0, 1, 2, -1, 1, true);
        int r = reader(x);
        due.same("a position counts once, for however many matches", found(x, r, 0), "1:428 0:142 2:125");
        due.same("in any order too", found(x, r, 1), "1:428 2:250 0:142");
        due.same("each one that is near", found(x, r, 2), "1:285 0:142 2:125");
    }

    private static void priceBounds() {
        HitHarbour x = new HitHarbour();
        int[] prices = {0, 1, 499, 500, 998, 999};
        for (int price : prices) {
            x.add(0, price, -1);
        }
        int[][] ranges = {{0, 999}, {1, 998}, {500, 500}, {501, 997}, {-5, 0}, {999, 5000}, {1000, 2000}, {-9, -1},
            {Integer.MIN_VALUE, Integer.MAX_VALUE}, {Integer.MIN_VALUE, Integer.MIN_VALUE}};
        for (int[] range : ranges) {
            x.priced(range[0], range[1]);
        }
        int[] want = {6, 4, 1, 0, 1, 1, 0, 0, 6, 0};
        int r = reader(x);
        for (int query = 0; query < want.length; query++) {
            due.same("range " + query, x.having(r, query), want[query]);
        }
        due.same("from the least to the greatest, both of them", found(x, r, 1), "1:0 2:0 3:0 4:0");
    }

    private static void boostedAsAnother() {
        HitHarbour x = new HitHarbour();
        put(x, 1, 0, 1);
        put(x, 0, 0, 2);
        x.term(0, 1);
        x.boosted(0, 1);
        x.boosted(0, 9);
        x.boosted(2, 9);
        x.term(0, 3);
        x.boosted(4, 9);
        int r = reader(x);
        due.same("by 1", found(x, r, 1), found(x, r, 0));
        due.same("by 9", found(x, r, 2), "0:3375");
        due.same("by 9 times 9", found(x, r, 3), "0:30375");
        due.same("none stays none", found(x, r, 5), "");
    }

    private static void parentsOfNone() {
        HitHarbour x = new HitHarbour();
        put(x, 0, 0, 1);
        put(x, 0, 0, 2);
        child(x, 1, 2);
        x.term(0, 1);
        x.parents(0);
        x.term(0, 2);
        x.parents(2);
        x.parents(3);
        int r = reader(x);
        due.same("one without children", found(x, r, 1), "");
        due.same("its own match does not count, nor is the child one", found(x, r, 3), "1:333");
        due.same("parents have no parents", found(x, r, 4), "");
        x.delete(2);
        int s = reader(x);
        due.same("whose child was deleted", found(x, s, 3), "");
        due.same("the reader ahead has it", found(x, r, 3), "1:333");
    }

    private static void parentsOfMany() {
        HitHarbour x = new HitHarbour();
        put(x, 0, 0, 1);
        for (int number = 1; number < 23; number++) {
            child(x, 0, 1, 2, 3, 4);
        }
        child(x, 0, 1);
        x.term(0, 1);
        x.parents(0);
        x.coloured(0);
        x.parents(2);
        int r = reader(x);
        due.same("the greatest score, of the last", found(x, r, 1), "0:250");
        due.same("once", x.having(r, 1), 1);
        due.same("of those without a score", found(x, r, 3), "0:0");
        x.delete(23);
        due.same("of all the same", found(x, reader(x), 1), "0:142");
    }

    /** The number 250 times 9 so often. */
    private static int boosts(int often) {
        int score = 250;
        for (int n = 0; n < often; n++) {
            score *= 9;
        }
        return score;
    }

    private static void parentsByScoresBelowZero() {
        HitHarbour x = new HitHarbour();
        put(x, 0, 0);
        child(x, 0, 1);
        child(x, 0, 1, 1);
        x.term(0, 1);
        for (int query = 0; query < 15; query++) {
            x.boosted(query, 9);
        }
        x.parents(14);
        x.parents(15);
        int r = reader(x);
        due.same("one is below 0", found(x, r, 14), "1:1279488701 2:-170471163");
        due.same("the other is the greatest", found(x, r, 16), "0:1279488701");
        due.same("both are below 0", found(x, r, 15), "1:-1369503579 2:-1534240467");
        due.same("the greatest of them", found(x, r, 17), "0:-1369503579");
        x.delete(1);
        due.same("the only one", found(x, reader(x), 17), "0:-494210664");
    }

    /** Documents 0 to 3: no word, 1, 2, and 1 and 2; queries 0 and 1: these words, 2: all documents, 3: none. */
    private static HitHarbour fourDocuments() {
        HitHarbour x = new HitHarbour();
        put(x, 0, 0);
        put(x, 0, 0, 1);
        put(x, 0, 0, 2);
        put(x, 0, 0, 1, 2);
        x.term(0, 1);
        x.term(0, 2);
        x.coloured(0);
        x.coloured(5);
        return x;
    }

    private static void sets(Object[][] rows) {
        for (Object[] row : rows) {
            HitHarbour x = fourDocuments();
            int query = setOf(x, (Integer) row[0], (String) row[1]);
            due.same(row[1] + ", least " + row[0], found(x, reader(x), query), row[2]);
        }
    }

    private static void setOfOne() {
        sets(new Object[][] {
            {0, "m0", "1:416 3:333"},
            {0, "f0", "1:0 3:0"},
            {0, "s0", "1:416 3:333"},
            {1, "s0", "1:416 3:333"},
            {2, "s0", ""},
            {6, "s0", ""},
            {0, "n0", ""},
            {1, "n0", ""},
            {0, "n3", ""},
            {1, "m0", ""},
            {1, "f0", ""},
            {0, "m3", ""},
            {0, "s3", ""},
        });
    }

    private static void setWithoutMust() {
        sets(new Object[][] {
            {0, "s0s1", "3:666 1:416 2:416"},
            {1, "s0s1", "3:666 1:416 2:416"},
            {2, "s0s1", "3:666"},
            {3, "s0s1", ""},
            {0, "s2s3", "0:0 1:0 2:0 3:0"},
            {0, "s0n1", "1:416"},
            {0, "n1s0", "1:416"},
            {0, "s2n0n1", "0:0"},
            {2, "s2s0n1", "1:416"},
        });
    }

    private static void setWithMust() {
        sets(new Object[][] {
            {0, "m2s0", "1:416 3:333 0:0 2:0"},
            {1, "m2s0", "1:416 3:333"},
            {0, "f2s0", "1:416 3:333 0:0 2:0"},
            {1, "f2s0", "1:416 3:333"},
            {2, "f2s0s1", "3:666"},
            {0, "f2n0", "0:0 2:0"},
            {0, "m2n0n1", "0:0"},
            {0, "m0m1", "3:666"},
            {0, "m0f1", "3:333"},
            {0, "f0f1", "3:0"},
            {0, "m0m3", ""},
            {0, "m0f3", ""},
            {0, "m0n2", ""},
            {0, "m0s3", "1:416 3:333"},
        });
    }

    private static void setOfSix() {
        sets(new Object[][] {
            {6, "s0s0s0s0s0s0", "1:2496 3:1998"},
            {5, "s0s0s0s0s0s1", "1:2080 3:1998"},
            {6, "s0s0s0s0s0s1", "3:1998"},
            {5, "s0s0s0s0s0m2", "1:2080 3:1665"},
            {6, "s0s0s0s0s0m2", ""},
            {0, "m0m0m0m0m0m0", "1:2496 3:1998"},
            {0, "m0m0m0m0m0m1", "3:1998"},
            {0, "m0m0m0m0m0n1", "1:2080"},
            {0, "f0f0f0f0f0s1", "3:333 1:0"},
            {0, "n0n0n0n0n0s1", "2:416"},
            {0, "s3s3s3s3s3m0", "1:416 3:333"},
            {0, "s3s3s3s3s3f0", "1:0 3:0"},
            {0, "m0s3s3s3s3s3", "1:416 3:333"},
            {0, "s3s3s3s3s3s0", "1:416 3:333"},
            {0, "s3s3s3s3s3n0", ""},
            {1, "s3s3s3s3s3s0", "1:416 3:333"},
            {0, "m0m0m0m0m0n3", "1:2080 3:1665"},
        });
    }

    private static void setSums() {
        sets(new Object[][] {
            {0, "m0s1", "3:666 1:416"},
            {0, "f0s1", "3:333 1:0"},
            {0, "m0f0s0n3", "1:832 3:666"},
            {0, "m2s2f2", "0:0 1:0 2:0 3:0"},
        });
    }

    private static void setSumsOfSets() {
        HitHarbour x = fourDocuments();
        int both = setOf(x, 0, "m0m1");
        int two = setOf(x, 2, "s0s1s2");
        int outer = setOf(x, 0, "s0s4");
        int filtered = setOf(x, 0, "m2s5f2");
        int without = setOf(x, 0, "m0n4");
        int r = reader(x);
        due.same("both", found(x, r, both), "3:666");
        due.same("two of three", found(x, r, two), "3:666 1:416 2:416");
        due.same("one that does not match adds nothing, though a part of it does", found(x, r, outer), "3:999 1:416");
        due.same("likewise one of too few", found(x, r, filtered), "3:666 1:416 2:416 0:0");
        due.same("one that must not", found(x, r, without), "1:416");
    }

    private static void boostedWraps() {
        HitHarbour x = new HitHarbour();
        put(x, 0, 0, 1);
        x.term(0, 1);
        for (int query = 0; query < 19; query++) {
            x.boosted(query, 9);
        }
        int r = reader(x);
        boolean isBelow = false;
        for (int query = 0; query < 20; query++) {
            due.same("boosted so often " + query, found(x, r, query), "0:" + boosts(query));
            due.same("its score", x.score(r, query, 0, true), boosts(query));
            isBelow |= boosts(query) < 0;
        }
        due.same("the last one that does not wrap", found(x, r, 7), "0:1195742250");
        due.same("the first one that does", found(x, r, 8), "0:" + (int) (1195742250L * 9));
        due.same("some are below 0", isBelow, true);
    }

    private static void sumsWrap() {
        HitHarbour x = new HitHarbour();
        put(x, 0, 0, 1);
        x.term(0, 1);
        for (int query = 0; query < 7; query++) {
            x.boosted(query, 9);
        }
        setOf(x, 0, "m7s7");
        setOf(x, 0, "s7");
        int r = reader(x);
        due.same("not yet", found(x, r, 9), "0:1195742250");
        due.same("twice", found(x, r, 8), "0:" + (int) (2 * 1195742250L));
        due.same("which is below 0", x.scoreAt(0) < 0, true);
        due.same("the mean is of what it is", x.meanScore(), (double) (int) (2 * 1195742250L));
    }

    private static void wrappedScoresAreOrdered() {
        HitHarbour x = new HitHarbour();
        put(x, 0, 0, 1, 1, 1);
        put(x, 0, 0, 1);
        put(x, 1, 0);
        x.term(0, 1);
        for (int query = 0; query < 8; query++) {
            x.boosted(query, 9);
        }
        x.coloured(1);
        setOf(x, 0, "s8s9");
        due.same("what is below 0 comes last", found(x, reader(x), 10), "1:1449656205 2:0 0:-1395654886");
        due.same("two are kept", x.search(0, 10, 2, false) + " " + hits(x), "3 1:1449656205 2:0");
    }

    private static void leastAndGreatestScore() {
        HitHarbour x = new HitHarbour();
        put(x, 0, 0, 1, 1, 1, 1, 1, 1, 1, 1, 1, 1);
        put(x, 0, 0, 4);
        putMany(x, 21);
        x.joinTo(2, 3);
        put(x, 0, 0, 2, 2, 2, 2, 2, 2, 2, 2, 2, 5);
        x.term(0, 1);
        x.term(0, 4);
        x.term(0, 5);
        int r = reader(x);
        due.same("ten times, in one of 24", found(x, r, 0), "0:9615");
        due.same("alone, in one of 24", found(x, r, 1), "1:3125");
        due.same("beside 18, in one of 24", found(x, r, 2), "23:568");
        HitHarbour y = new HitHarbour();
        y.joinTo(2, 3);
        for (int number = 0; number < 24; number++) {
            put(y, 0, 0, 1, 2, 2, 2, 2, 2, 2, 2, 2, 2);
        }
        y.term(0, 1);
        due.same("once beside 18, in all of 24", y.search(reader(y), 0, 24, false), 24);
        due.same("the least", y.scoreAt(23), 45);
        due.same("each of them", y.meanScore(), 45.0);
    }

    private static void scoresRoundedDown() {
        HitHarbour x = new HitHarbour();
        put(x, 0, 0, 1, 5);
        put(x, 0, 0, 1, 5, 5, 5);
        put(x, 0, 0, 1, 1, 5, 5, 5);
        putMany(x, 1);
        x.term(0, 1);
        x.term(0, 5);
        int r = reader(x);
        due.same("1250 by 5 and by 7, 2500 by 8", found(x, r, 0), "2:312 0:250 1:178");
        due.same("3750 by 8 and by 7, 1250 by 5", found(x, r, 1), "1:535 2:468 0:250");
        HitHarbour y = new HitHarbour();
        put(y, 0, 0, 1);
        put(y, 0, 0, 1, 5);
        putMany(y, 5);
        y.term(0, 1);
        due.same("8000 by 3 is 2666, that by 4 and by 5", found(y, reader(y), 0), "0:666 1:533");
    }

    private static void scoresOfAPhrase() {
        HitHarbour x = new HitHarbour();
        put(x, 0, 0, 1, 2, 1, 2);
        put(x, 0, 0, 2, 1);
        put(x, 0, 0, 1);
        x.phrase(0, 1, 2, -1, 0, true);
        x.phrase(0, 1, 2, -1, 0, false);
        x.phrase(0, 1, 2, 1, 0, true);
        int r = reader(x);
        due.same("those that match it, not its words", found(x, r, 0), "0:571");
        due.same("both", found(x, r, 1), "0:571 1:266");
        due.same("of three words", found(x, r, 2), "0:285");
        due.same("by the field's length", x.score(r, 1, 1, false), 266);
    }

    private static void localScores() {
        HitHarbour x = new HitHarbour();
        put(x, 0, 0, 1);
        putMany(x, 3);
        x.refresh();
        put(x, 0, 0, 1);
        put(x, 0, 0, 1, 2);
        x.refresh();
        put(x, 0, 0, 1);
        x.term(0, 1);
        x.phrase(0, 1, 2, -1, 0, true);
        int r = reader(x);
        due.same("three segments", x.segments(), 3);
        due.same("by the reader", found(x, r, 0, false), "0:400 4:400 6:400 5:320");
        due.same("by segments", found(x, r, 0, true), "0:625 4:250 6:250 5:200");
        due.same("a phrase by the reader", found(x, r, 1, false), "5:800");
        due.same("a phrase by its segment", found(x, r, 1, true), "5:300");
        due.same("score by the reader", x.score(r, 0, 0, false), 400);
        due.same("score by segments", x.score(r, 0, 0, true), 625);
    }

    private static void factsWithoutDeletedOnes() {
        HitHarbour x = new HitHarbour();
        for (int number = 0; number < 4; number++) {
            put(x, 0, 0, 1);
        }
        putMany(x, 4);
        x.term(0, 1);
        int r = reader(x);
        due.same("ahead", found(x, r, 0, true), "0:450 1:450 2:450 3:450");
        x.delete(0);
        x.delete(7);
        int s = reader(x);
        due.same("one of each is gone", found(x, s, 0, true), "1:437 2:437 3:437");
        due.same("by the reader too", found(x, s, 0, false), "1:437 2:437 3:437");
        x.delete(1);
        x.delete(2);
        due.same("one is left", found(x, reader(x), 0, true), "3:625");
        due.same("the reader ahead has its own facts", found(x, r, 0, false), "0:450 1:450 2:450 3:450");
    }
}
