/** What tests of the face have in common: short ways to call it, and to tell what it answers. */
abstract class Calls {
    static final Due due = new Due();

    /** Adds a document with words in field 0 and no parent. */
    static int put(HitHarbour x, int colour, int price, int... words) {
        draft(x, 0, words);
        return x.add(colour, price, -1);
    }

    static int child(HitHarbour x, int parent, int... words) {
        draft(x, 0, words);
        return x.add(0, 0, parent);
    }

    static void draft(HitHarbour x, int field, int... words) {
        for (int word : words) {
            x.draft(field, word);
        }
    }

    /** Adds documents without words. */
    static void putMany(HitHarbour x, int number) {
        for (int n = 0; n < number; n++) {
            x.add(0, 0, -1);
        }
    }

    /** A reader of all that was told. */
    static int reader(HitHarbour x) {
        x.refresh();
        return x.open();
    }

    /** Makes a set of clauses, each told by its kind and the digit of its query. */
    static int setOf(HitHarbour x, int least, String clauses) {
        for (int sign = 0; sign < clauses.length(); sign += 2) {
            x.clause(clauses.charAt(sign), clauses.charAt(sign + 1) - '0');
        }
        return x.set(least);
    }

    static String hits(HitHarbour x) {
        StringBuilder told = new StringBuilder();
        int hits = x.hits();
        for (int hit = 0; hit < hits; hit++) {
            told.append(x.hitAt(hit)).append(':').append(x.scoreAt(hit)).append(' ');
        }
        return told.toString().trim();
    }

    /** All hits of a search, which both ways of searching have to find. */
    static String found(HitHarbour x, int reader, int query, boolean isLocal) {
        int matching = x.search(reader, query, 24, isLocal);
        String atOnce = hits(x);
        due.same("both ways match as many", x.searchAnew(reader, query, 24, isLocal), matching);
        due.same("both ways find the same", hits(x), atOnce);
        return atOnce;
    }

    static String found(HitHarbour x, int reader, int query) {
        return found(x, reader, query, false);
    }

    /** The documents of the segments, those of each behind a stroke. */
    static String segments(HitHarbour x) {
        StringBuilder told = new StringBuilder();
        int segments = x.segments();
        for (int segment = 0; segment < segments; segment++) {
            told.append(segment == 0 ? "" : "|");
            int place = 0;
            for (Object document = at(x, segment, place); document instanceof Integer; document = at(x, segment, place)) {
                told.append(place == 0 ? "" : " ").append(document);
                place++;
            }
        }
        return told.toString();
    }

    private static Object at(HitHarbour x, int segment, int place) {
        return Due.answerOf(() -> x.segmentAt(segment, place));
    }
}
