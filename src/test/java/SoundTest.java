import java.lang.reflect.Field;

/**
 * Promise 40: no run of calls can make a harbour unsound, so this test reaches into objects and
 * spoils them. It knows how the state is held and has to follow when that changes.
 */
public final class SoundTest {
    private static final Due due = new Due();

    private SoundTest() {
    }

    public static void main(String[] args) throws Exception {
        HitHarbour first = harbour();
        due.same("40: not spoilt", first.isSound(), true);

        HitHarbour matching = harbour();
        ((int[]) inside(inside(matching, "index"), "carriers"))[1] = 0;
        due.same("40: documents that one way does not match", matching.isSound(), false);
        matching.close(1);
        due.same("40: readers that are closed are not looked at", matching.isSound(), true);

        HitHarbour anew = harbour();
        ((int[][]) inside(inside(anew, "index"), "often"))[1][2] = 0;
        due.same("40: a document that the other way does not match", anew.isSound(), false);

        HitHarbour exchanged = harbour();
        ((int[]) inside(inside(exchanged, "index"), "carriers"))[1] = 1 << 1;
        due.same("40: as many, but others", exchanged.isSound(), false);

        HitHarbour lost = harbour();
        segmentsOf(lost)[0] = 1;
        due.same("40: a document in no segment", lost.isSound(), false);

        HitHarbour twice = harbour();
        segmentsOf(twice)[1] |= 1;
        due.same("40: a document in two segments", twice.isSound(), false);

        HitHarbour buffered = harbour();
        segmentsOf(buffered)[0] |= 1 << 3;
        due.same("40: a document in a segment and the buffer", buffered.isSound(), false);
        due.end();
    }

    /** Documents 0 and 1 in a segment, 2 in another, 3 in the buffer; reader 1 is open; two queries. */
    private static HitHarbour harbour() {
        HitHarbour x = new HitHarbour();
        x.open();
        x.close(0);
        for (int document = 0; document < 4; document++) {
            x.draft(0, document == 2 ? 5 : 4);
            x.add(0, 0, -1);
            if (document == 1 || document == 2) {
                x.refresh();
            }
        }
        x.open();
        x.term(0, 4);
        x.term(0, 5);
        return x;
    }

    private static int[] segmentsOf(HitHarbour x) throws Exception {
        return (int[]) inside(inside(inside(x, "journal"), "latest"), "segments");
    }

    private static Object inside(Object outer, String name) throws Exception {
        Field field = outer.getClass().getDeclaredField(name);
        field.setAccessible(true);
        return field.get(outer);
    }
}
