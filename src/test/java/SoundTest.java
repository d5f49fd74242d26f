import java.lang.reflect.Field;

/**
 * Promise 40: no run of calls can make a harbour unsound, so this test reaches into objects and
 * spoils them. It knows how the state is held and has to follow when that changes.
 */
public final class SoundTest {
    private static final Due due = new Due();

    private SoundTest() {
    }

    public static void main(String[] args) throws Exception {
        HitHarbour first = harbour();
        due.same("40: not spoilt", first.isSound(), true);

        HitHarbour matching = harbour();
        ((int[]) inside(matching, "index", "carriers"))[1] = 0;
        due.same("40: documents that one way does not match", matching.isSound(), false);
        matching.close(1);
        due.same("40: readers that are closed are not looked at", matching.isSound(), true);

        HitHarbour anew = harbour();
        ((int[][]) inside(anew, "index", "often"))[1][2] = 0;
        due.same("40: a document that the other way does not match", anew.isSound(), false);

        HitHarbour exchanged = harbour();
        ((int[]) inside(exchanged, "index", "carriers"))[1] = 1 << 1;
        due.same("40: as many, but others", exchanged.isSound(), false);

        HitHarbour alike = harbour();
        ((int[]) inside(alike, "index", "carriers"))[1] = 1 << 1;
        Object third = ((Object[]) inside(alike, "index", "documents"))[2];
        ((int[]) inside(third, "lengths"))[0] = 1_000_000;
        due.same("40: as many by the same scores, but others", alike.isSound(), false);

        HitHarbour lost = harbour();
        segmentsOf(lost)[0] = 1;
        due.same("40: a document in no segment", lost.isSound(), false);

        HitHarbour twice = harbour();
        segmentsOf(twice)[1] |= 1;
        due.same("40: a document in two segments", twice.isSound(), false);

        HitHarbour buffered = harbour();
        segmentsOf(buffered)[0] |= 1 << 3;
        due.same("40: a document in a segment and the buffer", buffered.isSound(), false);

        HitHarbour nowhere = harbour();
        Object ledger = inside(nowhere, "journal", "latest", "ledger");
        field(ledger, "numbered").setInt(ledger, 4);
        due.same("40: a document in neither", nowhere.isSound(), false);
        for (int reader = 0; reader < 6; reader += 5) {
            for (int query = 0; query < 30; query += 29) {
                for (int document = 0; document < 24; document += 23) {
                    edgeOfAll(reader, query, document);
                }
            }
        }
        due.end();
    }

    /** The first or the last reader alone is open, and one document is not matched by one query in one way. */
    private static void edgeOfAll(int reader, int query, int document) throws Exception {
        HitHarbour x = new HitHarbour();
        for (int number = 0; number < 24; number++) {
            x.draft(0, 4);
            x.add(0, 0, -1);
        }
        x.refresh();
        for (int number = 0; number < 6; number++) {
            x.open();
        }
        for (int number = 0; number < 6; number++) {
            if (number != reader) {
                x.close(number);
            }
        }
        for (int number = 0; number < 30; number++) {
            x.term(0, number == query ? 4 : 5);
        }
        String name = "40: reader " + reader + ", query " + query + ", document " + document;
        due.same(name + ", not spoilt", x.isSound(), true);
        int[] carriers = (int[]) inside(x, "index", "carriers");
        carriers[query] &= ~(1 << document);
        due.same(name + ", spoilt", x.isSound(), false);
        x.close(reader);
        due.same(name + ", not looked at", x.isSound(), true);
    }

    /** Documents 0 and 1 in a segment, 2 in another, 3 in the buffer; reader 1 is open; two queries. */
    private static HitHarbour harbour() {
        HitHarbour x = new HitHarbour();
        x.open();
        x.close(0);
        for (int document = 0; document < 4; document++) {
            x.draft(0, document == 2 ? 5 : 4);
            x.add(0, 0, -1);
            if (document == 1 || document == 2) {
                x.refresh();
            }
        }
        x.open();
        x.term(0, 4);
        x.term(0, 5);
        return x;
    }

    private static int[] segmentsOf(HitHarbour x) throws Exception {
        return (int[]) inside(x, "journal", "latest", "segments");
    }

    /** What a field holds; names lead to it, each within the one ahead. */
    private static Object inside(Object outer, String... names) throws Exception {
        Object found = outer;
        for (String name : names) {
            found = field(found, name).get(found);
        }
        return found;
    }

    private static Field field(Object holder, String name) throws Exception {
        Field field = holder.getClass().getDeclaredField(name);
        field.setAccessible(true);
        return field;
    }
}
