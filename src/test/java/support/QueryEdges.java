/** Edges of queries and how they are made: the terms' first sentences of "Queries" and promises 19 to 26. */
final class QueryEdges extends Calls {
    private static final int[] NO_WORDS = {-1, 31, Integer.MIN_VALUE, Integer.MAX_VALUE};
    private static final int[] NO_FIELDS = {-1, 2, Integer.MIN_VALUE, Integer.MAX_VALUE};
    private static final String NO_FIELD = "Throws `IndexOutOfBoundsException` if there is no such field";
    private static final String NO_QUERY = "Throws `IndexOutOfBoundsException` if there is no such query";
    private static final String TOO_GREAT = "Throws `UnsupportedOperationException` if its size would be too great";
    private static final String FULL = "Throws `IllegalStateException` if there are 30 queries";

    private QueryEdges() {
    }

    static void all(Edges edges) {
        String numbers = "At most 30 are numbered from 0, made of earlier ones, which can be parts of several; the size"
                + " of one is 1 more than that of its parts together, and at most 20.";
        edges.of(0, numbers, QueryEdges::queryNumbers);
        edges.of(0, numbers, QueryEdges::madeOfEarlierOnes);
        edges.of(0, numbers, QueryEdges::partsOfSeveral);
        edges.of(0, numbers, QueryEdges::sizes);
        edges.of(0, numbers, QueryEdges::greatestSizesMatch);
        edges.of(0, numbers, QueryEdges::lastQueriesMatch);
        termEdges(edges);
        phraseEdges(edges);
        rangeEdges(edges);
        boostedEdges(edges);
        parentsEdges(edges);
        clauseEdges(edges);
        setEdges(edges);
    }

    private static void termEdges(Edges edges) {
        edges.of(19, "- `word`: the word, 0 to 30", QueryEdges::termWord);
        edges.of(19, NO_FIELD, QueryEdges::termNoField);
        edges.of(19, "Throws `IllegalArgumentException` if there is no such word", QueryEdges::termNoWord);
        edges.of(19, FULL, () -> full(x -> x.term(0, 0)));
    }

    private static void phraseEdges(Edges edges) {
        edges.of(20, "- `c`: the third word, or -1", QueryEdges::phraseThirdWord);
        edges.of(20, "- `slop`: the slop, 0 to 9", QueryEdges::phraseSlop);
        edges.of(20, NO_FIELD, QueryEdges::phraseNoField);
        edges.of(20, "Throws `IllegalArgumentException` if there is no such word, or the slop is out of range",
                QueryEdges::phraseThrows);
        edges.of(20, FULL, () -> full(x -> x.phrase(0, 0, 0, -1, 0, true)));
        edges.of(20, FULL, () -> full(x -> x.phrase(1, 30, 30, 30, 9, false)));
    }

    private static void rangeEdges(Edges edges) {
        edges.of(21, "Throws `IllegalArgumentException` if the former is greater", QueryEdges::pricedThrows);
        edges.of(21, FULL, () -> full(x -> x.priced(0, 0)));
        edges.of(22, "Throws `IllegalArgumentException` if there is no such colour", QueryEdges::colouredThrows);
        edges.of(22, FULL, () -> full(x -> x.coloured(0)));
    }

    private static void boostedEdges(Edges edges) {
        edges.of(23, "- `factor`: the factor, 1 to 9", QueryEdges::boostedFactor);
        edges.of(23, NO_QUERY, () -> Harbours.noQuery((x, query) -> x.boosted(query, 1)));
        edges.of(23, "Throws `IllegalArgumentException` if the factor is out of range", QueryEdges::boostedThrows);
        edges.of(23, TOO_GREAT, QueryEdges::boostedTooGreat);
        edges.of(23, FULL, () -> full(x -> x.boosted(0, 9)));
    }

    private static void parentsEdges(Edges edges) {
        edges.of(24, NO_QUERY, () -> Harbours.noQuery((x, query) -> x.parents(query)));
        edges.of(24, TOO_GREAT, QueryEdges::parentsTooGreat);
        edges.of(24, FULL, () -> full(x -> x.parents(0)));
    }

    private static void clauseEdges(Edges edges) {
        edges.of(25, "Returns the number of clauses.", QueryEdges::clauseNumber);
        edges.of(25, "Throws `IllegalArgumentException` if there is no such kind", QueryEdges::clauseNoKind);
        edges.of(25, NO_QUERY, () -> Harbours.noQuery((x, query) -> x.clause('m', query)));
        edges.of(25, "Throws `IllegalStateException` if there are 6", QueryEdges::clauseFull);
    }

    private static void setEdges(Edges edges) {
        edges.of(26, "Makes a set of the clauses that were put; there are none then.", QueryEdges::noClausesThen);
        edges.of(26, "- `least`: how many of kind s must match at least, 0 to 6", QueryEdges::setLeast);
        edges.of(26, "Throws `IllegalArgumentException` if the number is out of range, or there are no clauses",
                QueryEdges::setThrows);
        edges.of(26, TOO_GREAT, QueryEdges::setTooGreat);
        edges.of(26, FULL, () -> full(x -> x.set(0)));
    }

    /** Looks that a call is refused where there are 30 queries, and only there. */
    private static void full(Harbours.Call call) {
        Harbours.state(Harbours.FULL, "all is full", call);
        Harbours.state(Harbours.busyWith(7, x -> x.priced(0, 5)), "only queries are full", call);
        HitHarbour x = Harbours.busyWith(6, y -> y.priced(0, 5)).make();
        due.same("the last one has room", call.of(x), 29);
    }

    private static void queryNumbers() {
        HitHarbour x = new HitHarbour();
        for (int round = 0; round < 5; round++) {
            due.same("a term", x.term(0, 0), 6 * round);
            due.same("a phrase", x.phrase(0, 0, 0, -1, 0, true), 6 * round + 1);
            due.same("a range", x.priced(0, 0), 6 * round + 2);
            due.same("a colour", x.coloured(0), 6 * round + 3);
            due.same("a boosted one", x.boosted(0, 1), 6 * round + 4);
            due.same("one of parents", x.parents(0), 6 * round + 5);
        }
        x.clause('m', 29);
        due.state("no thirty-first", () -> x.set(0));
        due.state("nor a term", () -> x.term(0, 0));
        HitHarbour y = new HitHarbour();
        for (int query = 0; query < 29; query++) {
            y.coloured(0);
        }
        y.clause('m', 28);
        due.same("a set as the last one", y.set(0), 29);
        y.clause('m', 29);
        due.same("can be a part still", y.clause('s', 29), 2);
        due.same("and be stored", y.keep(29), 1);
    }

    private static void madeOfEarlierOnes() {
        HitHarbour x = new HitHarbour();
        due.range("the first one of itself", () -> x.parents(0));
        x.term(0, 0);
        due.range("the second one of itself", () -> x.boosted(1, 1));
        due.range("nor by a clause", () -> x.clause('n', 1));
        due.same("of the first one", x.parents(0), 1);
        due.same("then of the second one", x.boosted(1, 1), 2);
    }

    private static void partsOfSeveral() {
        HitHarbour x = new HitHarbour();
        put(x, 0, 0, 1);
        x.term(0, 1);
        x.boosted(0, 2);
        x.boosted(0, 3);
        setOf(x, 0, "m0m0m1m2");
        setOf(x, 0, "s3s3s0");
        int r = reader(x);
        due.same("a part", found(x, r, 0), "0:250");
        due.same("of one", found(x, r, 1), "0:500");
        due.same("of another", found(x, r, 2), "0:750");
        due.same("twice of a third", found(x, r, 3), "0:1750");
        due.same("and of what has it", found(x, r, 4), "0:3750");
        due.same("as ever", found(x, r, 0), "0:250");
    }

    private static void sizes() {
        HitHarbour x = new HitHarbour();
        x.term(0, 1);
        x.phrase(0, 1, 1, 1, 0, true);
        x.priced(0, 0);
        x.coloured(0);
        due.same("each of size 1, together 7", setOf(x, 0, "m0m1m2m3m0m1"), 4);
        due.same("boosted 8", x.boosted(4, 1), 5);
        due.same("of parents 9", x.parents(5), 6);
        due.same("both 18", setOf(x, 0, "m5m6"), 7);
        due.same("boosted 19", x.boosted(7, 1), 8);
        due.same("of parents 20", x.parents(8), 9);
        due.tooGreat("boosted 21", () -> x.boosted(9, 1));
        due.tooGreat("of parents 21", () -> x.parents(9));
        x.clause('n', 9);
        due.tooGreat("a set of one 21", () -> x.set(0));
        HitHarbour y = new HitHarbour();
        y.term(0, 1);
        for (int query = 1; query < 10; query++) {
            y.boosted(query - 1, 1);
        }
        y.clause('s', 9);
        due.same("twice 10 and 1", y.clause('s', 9), 2);
        due.tooGreat("are 21", () -> y.set(0));
        HitHarbour z = new HitHarbour();
        z.term(0, 1);
        for (int query = 1; query < 9; query++) {
            z.boosted(query - 1, 1);
        }
        z.boosted(8, 1);
        due.same("10, 9 and 1 are 20", setOf(z, 0, "s9s8"), 10);
    }

    private static void greatestSizesMatch() {
        HitHarbour x = new HitHarbour();
        put(x, 0, 0, 1);
        child(x, 0, 1, 1);
        x.term(0, 1);
        for (int query = 0; query < 19; query++) {
            x.clause("ms".charAt(query % 2), query);
            x.set(0);
        }
        due.same("sets of sets", found(x, reader(x), 19), "1:400 0:250");
        HitHarbour y = new HitHarbour();
        put(y, 0, 0);
        child(y, 0, 1);
        y.term(0, 1);
        y.parents(0);
        for (int query = 1; query < 19; query++) {
            y.clause('m', query);
            y.set(0);
        }
        due.same("sets of parents", found(y, reader(y), 19), "0:375");
        HitHarbour z = new HitHarbour();
        put(z, 0, 0);
        child(z, 0, 1);
        z.term(0, 1);
        for (int query = 0; query < 9; query++) {
            z.boosted(query, 1);
        }
        z.parents(9);
        for (int query = 10; query < 19; query++) {
            z.boosted(query, 1);
        }
        due.same("boosted parents of boosted ones", found(z, reader(z), 19), "0:375");
    }

    private static void lastQueriesMatch() {
        HitHarbour x = new HitHarbour();
        put(x, 0, 0, 1, 2);
        for (int query = 0; query < 28; query++) {
            x.coloured(5);
        }
        due.same("the last but one", x.phrase(0, 2, 1, -1, 0, false), 28);
        due.same("the last", x.term(0, 2), 29);
        put(x, 0, 0, 1, 2);
        int r = reader(x);
        due.same("a phrase, ahead of documents and behind", found(x, r, 28), "0:200 1:200");
        due.same("a term, ahead of documents and behind", found(x, r, 29), "0:200 1:200");
        x.keep(29);
        x.keep(28);
        x.draft(0, 2);
        due.same("met", x.met(0, 0), 1);
        x.draft(0, 1);
        due.same("both are met", x.met(0, 0), 3);
    }

    private static void termWord() {
        HitHarbour x = new HitHarbour();
        due.same("the least", x.term(0, 0), 0);
        due.same("the greatest", x.term(1, 30), 1);
        x.draft(0, 0);
        x.draft(1, 30);
        x.add(0, 0, -1);
        int r = reader(x);
        due.same("the least is found", found(x, r, 0), "0:250");
        due.same("the greatest is found", found(x, r, 1), "0:250");
    }

    private static void termNoField() {
        for (int field : NO_FIELDS) {
            Harbours.range(Harbours.BUSY, "field " + field, x -> x.term(field, 0));
        }
    }

    private static void termNoWord() {
        for (int word : NO_WORDS) {
            Harbours.argument(Harbours.BUSY, "word " + word, x -> x.term(0, word));
            Harbours.argument(Harbours.FRESH, "the first one, word " + word, x -> x.term(1, word));
        }
    }

    private static void phraseThirdWord() {
        HitHarbour x = new HitHarbour();
        put(x, 0, 0, 1, 2);
        put(x, 0, 0, 1, 2, 0);
        put(x, 0, 0, 1, 2, 30);
        x.phrase(0, 1, 2, -1, 0, true);
        x.phrase(0, 1, 2, 0, 0, true);
        x.phrase(0, 1, 2, 30, 0, true);
        x.phrase(0, 1, 2, -1, 0, false);
        x.phrase(0, 1, 2, 0, 0, false);
        int r = reader(x);
        due.same("none", found(x, r, 0), "0:200 1:166 2:166");
        due.same("the least", found(x, r, 1), "1:333");
        due.same("the greatest", found(x, r, 2), "2:333");
        due.same("none, in any order", found(x, r, 3), "0:200 1:166 2:166");
        due.same("the least, in any order", found(x, r, 4), "1:333");
    }

    private static void phraseSlop() {
        HitHarbour x = new HitHarbour();
        for (int between = 0; between <= 8; between++) {
            x.draft(0, 1);
            for (int word = 0; word < between; word++) {
                x.draft(0, 9);
            }
            x.draft(0, 2);
            x.add(0, 0, -1);
        }
        for (int slop = 0; slop <= 9; slop++) {
            due.same("slop " + slop, x.phrase(0, 1, 2, -1, slop, slop % 2 == 0), slop);
        }
        int r = reader(x);
        for (int slop = 0; slop <= 9; slop++) {
            due.same("as many between at most as the slop " + slop, x.having(r, slop), Math.min(9, slop + 1));
        }
    }

    private static void phraseNoField() {
        for (int field : NO_FIELDS) {
            Harbours.range(Harbours.BUSY, "field " + field, x -> x.phrase(field, 0, 1, -1, 0, true));
        }
    }

    private static void phraseThrows() {
        for (int word : NO_WORDS) {
            Harbours.argument(Harbours.BUSY, "a " + word, x -> x.phrase(0, word, 0, -1, 0, true));
            Harbours.argument(Harbours.BUSY, "b " + word, x -> x.phrase(0, 0, word, -1, 0, true));
        }
        for (int word : new int[] {-2, 31, Integer.MIN_VALUE, Integer.MAX_VALUE}) {
            Harbours.argument(Harbours.BUSY, "c " + word, x -> x.phrase(0, 0, 0, word, 0, true));
        }
        for (int slop : new int[] {-1, 10, Integer.MIN_VALUE, Integer.MAX_VALUE}) {
            Harbours.argument(Harbours.BUSY, "slop " + slop, x -> x.phrase(0, 0, 0, -1, slop, true));
            Harbours.argument(Harbours.BUSY, "of three, slop " + slop, x -> x.phrase(1, 0, 0, 0, slop, false));
        }
    }

    private static void pricedThrows() {
        int least = Integer.MIN_VALUE;
        int most = Integer.MAX_VALUE;
        Harbours.argument(Harbours.BUSY, "by one", x -> x.priced(1, 0));
        Harbours.argument(Harbours.BUSY, "by one below 0", x -> x.priced(-1, -2));
        Harbours.argument(Harbours.BUSY, "by all", x -> x.priced(most, least));
        Harbours.argument(Harbours.BUSY, "by one, at the greatest", x -> x.priced(most, most - 1));
        HitHarbour x = new HitHarbour();
        due.same("both are the same", x.priced(7, 7), 0);
        due.same("both are the least", x.priced(least, least), 1);
        due.same("both are the greatest", x.priced(most, most), 2);
        due.same("the former is less by all", x.priced(least, most), 3);
    }

    private static void colouredThrows() {
        for (int colour : new int[] {-1, 6, Integer.MIN_VALUE, Integer.MAX_VALUE}) {
            Harbours.argument(Harbours.BUSY, "colour " + colour, x -> x.coloured(colour));
        }
        HitHarbour x = new HitHarbour();
        due.same("the least", x.coloured(0), 0);
        due.same("the greatest", x.coloured(5), 1);
    }

    private static void boostedFactor() {
        HitHarbour x = new HitHarbour();
        put(x, 0, 0, 1);
        x.term(0, 1);
        for (int factor = 1; factor <= 9; factor++) {
            due.same("factor " + factor, x.boosted(0, factor), factor);
        }
        int r = reader(x);
        for (int factor = 1; factor <= 9; factor++) {
            due.same("times " + factor, found(x, r, factor), "0:" + 250 * factor);
        }
    }

    private static void boostedThrows() {
        for (int factor : new int[] {0, 10, -1, Integer.MIN_VALUE, Integer.MAX_VALUE}) {
            Harbours.argument(Harbours.BUSY, "factor " + factor, x -> x.boosted(0, factor));
        }
    }

    private static void boostedTooGreat() {
        Harbours.tooGreat(Harbours.BUSY, "one of size 20", x -> x.boosted(22, 1));
        HitHarbour x = Harbours.BUSY.make();
        due.same("one of size 19", x.boosted(21, 9), 23);
        due.tooGreat("which is of size 20 then", () -> x.boosted(23, 9));
    }

    private static void parentsTooGreat() {
        Harbours.tooGreat(Harbours.BUSY, "one of size 20", x -> x.parents(22));
        HitHarbour x = Harbours.BUSY.make();
        due.same("one of size 19", x.parents(21), 23);
        due.tooGreat("which is of size 20 then", () -> x.parents(23));
    }

    private static void clauseNumber() {
        HitHarbour x = new HitHarbour();
        x.term(0, 1);
        for (int number = 1; number <= 6; number++) {
            due.same("the same one again", x.clause('s', 0), number);
        }
        x.set(6);
        due.same("from 1 again", x.clause('f', 1), 1);
    }

    private static void clauseNoKind() {
        for (char kind = 0; kind < 256; kind++) {
            char sign = kind;
            if ("msnf".indexOf(kind) < 0) {
                due.argument("kind " + (int) kind, () -> busyClause(sign));
            } else {
                due.same("kind " + kind, busyClause(kind), 3);
            }
        }
        for (char kind : new char[] {'l', 'g', 'M', ' ', 0, Character.MAX_VALUE, 'm' + 256, 's' + 65536 / 2}) {
            Harbours.argument(Harbours.BUSY, "kind " + (int) kind, x -> x.clause(kind, 0));
        }
    }

    private static int busyClause(char kind) {
        return Harbours.BUSY.make().clause(kind, 0);
    }

    private static void clauseFull() {
        for (char kind : "msnf".toCharArray()) {
            Harbours.state(Harbours.FULL, "a seventh of kind " + kind, x -> x.clause(kind, 0));
            Harbours.state(Harbours.busyWith(4, x -> x.clause('s', 1)), "with room for a set, kind " + kind,
                    x -> x.clause(kind, 0));
        }
    }

    private static void noClausesThen() {
        HitHarbour x = new HitHarbour();
        put(x, 0, 0, 1);
        put(x, 1, 0, 2);
        x.term(0, 1);
        x.term(0, 2);
        due.same("a set", setOf(x, 0, "n0s1"), 2);
        due.argument("none are left", () -> x.set(0));
        due.same("another one", setOf(x, 0, "s0"), 3);
        int r = reader(x);
        due.same("the first has its own", found(x, r, 2), "1:375");
        due.same("the other has nothing of the first", found(x, r, 3), "0:375");
    }

    private static void setLeast() {
        HitHarbour x = new HitHarbour();
        for (int last = 1; last <= 6; last++) {
            for (int word = 1; word <= last; word++) {
                x.draft(0, word);
            }
            x.add(0, 0, -1);
            x.term(0, last);
        }
        for (int least = 0; least <= 6; least++) {
            due.same("least " + least, setOf(x, least, "s0s1s2s3s4s5"), 6 + least);
        }
        int r = reader(x);
        due.same("of 0 and no must, one at least", x.having(r, 6), 6);
        for (int least = 1; least <= 6; least++) {
            due.same("at least " + least, x.having(r, 6 + least), 7 - least);
        }
    }

    private static void setThrows() {
        for (int least : new int[] {-1, 7, Integer.MIN_VALUE, Integer.MAX_VALUE}) {
            Harbours.argument(Harbours.BUSY, "least " + least, x -> x.set(least));
        }
        Harbours.argument(Harbours.FRESH, "no clauses", x -> x.set(0));
        Harbours.argument(Harbours.FRESH, "no clauses of six", x -> x.set(6));
    }

    private static void setTooGreat() {
        Snapshot.Maker great = () -> {
            HitHarbour x = Harbours.BUSY.make();
            x.set(0);
            x.clause('n', 21);
            x.clause('f', 0);
            return x;
        };
        Harbours.tooGreat(great, "19, 1 and 1", x -> x.set(0));
        Harbours.tooGreat(great, "with another number", x -> x.set(6));
        HitHarbour x = Harbours.BUSY.make();
        x.set(0);
        x.clause('n', 20);
        x.clause('f', 0);
        due.same("18, 1 and 1", x.set(0), 24);
        x.clause('s', 21);
        due.same("19 and 1", x.set(0), 25);
        x.clause('m', 22);
        due.tooGreat("20 and 1", () -> x.set(0));
        due.tooGreat("again", () -> x.set(0));
        due.same("the clause is there", x.clause('m', 0), 2);
    }
}
