import java.util.List;
import java.util.Random;

/** Random runs of calls, each answer compared with that of HarbourModel. */
public final class ModelTest {
    private static final int RUNS = 2500;
    private static final int CALLS = 512;
    private static final String[] CALLED = {
        "fold", "setStop", "joinTo", "draft", "add", "delete", "setPrice", "refresh", "commit", "sync", "crash",
        "documents", "segments", "segmentAt", "open", "close", "seen", "term", "phrase", "priced", "coloured",
        "boosted", "parents", "clause", "set", "search", "searchAnew", "hits", "hitAt", "scoreAt", "score", "count",
        "having", "keep", "met", "operations", "deletedShare", "meanScore", "isSound",
    };
    /** How often each is called where a run has no wish of its own. */
    private static final int[] WEIGHTS = {
        2, 2, 2, 50, 14, 2, 4, 7, 2, 3, 1,
        1, 1, 3, 3, 1, 2, 4, 5, 1, 1,
        2, 3, 8, 4, 14, 14, 1, 3, 3, 8, 8,
        8, 1, 5, 1, 2, 2, 1,
    };

    private final Due due;
    private final Random random;
    private final HitHarbour x = new HitHarbour();
    private final HarbourModel model = new HarbourModel();
    private final int run;
    private final int words;
    private final int[] weights = new int[WEIGHTS.length];
    private int weightSum = 0;

    private ModelTest(Due due, int run) {
        this.due = due;
        this.run = run;
        random = new Random(run * 7919L + 1);
        words = 2 + random.nextInt(4);
        for (int n = 0; n < weights.length; n++) {
            // Each run likes some calls and leaves out others.
            int like = random.nextInt(6);
            weights[n] = like == 0 ? 0 : like == 1 ? WEIGHTS[n] * 3 : WEIGHTS[n];
            // Crashes and closings use up the readers, so most runs go without them.
            boolean isEnd = CALLED[n].equals("crash") || CALLED[n].equals("close");
            boolean isNeeded = CALLED[n].equals("open") || CALLED[n].equals("add");
            weights[n] = isEnd && run % 5 < 3 ? 0 : isNeeded ? WEIGHTS[n] : weights[n];
            weightSum += weights[n];
        }
    }

    public static void main(String[] args) {
        Due due = new Due();
        for (int run = 0; run < RUNS && !due.isWrong(); run++) {
            ModelTest test = new ModelTest(due, run);
            for (int call = 0; call < CALLS && !due.isWrong(); call++) {
                test.callOne(call);
            }
        }
        due.end();
    }

    private void callOne(int call) {
        int left = random.nextInt(weightSum);
        int chosen = 0;
        while (left >= weights[chosen]) {
            left -= weights[chosen];
            chosen++;
        }
        long seed = random.nextLong();
        String name = CALLED[chosen];
        String[] told = {name};
        Object got = Due.answerOf(() -> new Caller(seed, told).onHarbour(name));
        Object want = Due.answerOf(() -> new Caller(seed, told).onModel(name));
        due.same("run " + run + ", call " + call + " " + told[0], got, want);
        due.same("run " + run + ", call " + call + " " + told[0] + ": hits", hits(), modelHits());
        due.same("run " + run + ", call " + call + " " + told[0] + ": segments", segments(), modelSegments());
    }

    private String hits() {
        StringBuilder told = new StringBuilder();
        for (int hit = 0; hit < x.hits(); hit++) {
            told.append(x.hitAt(hit)).append(':').append(x.scoreAt(hit)).append(' ');
        }
        return told.toString();
    }

    private String modelHits() {
        StringBuilder told = new StringBuilder();
        for (int hit = 0; hit < model.hits(); hit++) {
            told.append(model.hitAt(hit)).append(':').append(model.scoreAt(hit)).append(' ');
        }
        return told.toString();
    }

    private String segments() {
        StringBuilder told = new StringBuilder();
        for (int segment = 0; segment < x.segments(); segment++) {
            try {
                for (int place = 0; ; place++) {
                    told.append(x.segmentAt(segment, place)).append(' ');
                }
            } catch (IndexOutOfBoundsException e) {
                told.append('|');
            }
        }
        return told.append(x.documents()).toString();
    }

    private String modelSegments() {
        StringBuilder told = new StringBuilder();
        for (int segment = 0; segment < model.segments(); segment++) {
            try {
                for (int place = 0; ; place++) {
                    told.append(model.segmentAt(segment, place)).append(' ');
                }
            } catch (IndexOutOfBoundsException e) {
                told.append('|');
            }
        }
        return told.append(model.documents()).toString();
    }

    /** Makes the same arguments for both from one seed. */
    private final class Caller {
        private final Random own;
        private final String[] told;
        private final List<Integer> readers = model.openReaders();
        private final int queries = model.queryCount();
        private final int documents = model.documentCount();

        Caller(long seed, String[] told) {
            own = new Random(seed);
            this.told = told;
            told[0] = told[0].split("\\(")[0];
        }

        private int note(int number) {
            told[0] += (told[0].indexOf('(') < 0 ? "(" : ", ") + number;
            return number;
        }

        /** A number that is right mostly, at an edge or beyond it sometimes. */
        private int number(int least, int most) {
            int way = own.nextInt(60);
            int[] edges = {least - 1, most + 1, least, most, Integer.MAX_VALUE, Integer.MIN_VALUE, most + 32};
            return note(way < edges.length ? edges[way] : least + own.nextInt(Math.max(1, most - least + 1)));
        }

        private int word() {
            return own.nextInt(60) == 0 ? number(0, 30) : note(own.nextInt(words));
        }

        private int wordOrNone() {
            return own.nextInt(3) == 0 ? note(-1) : word();
        }

        private int field() {
            return own.nextInt(40) == 0 ? number(0, 1) : note(own.nextInt(4) == 0 ? 1 : 0);
        }

        /** One of those that are there, mostly. */
        private int oneOf(int count, int most) {
            return count == 0 || own.nextInt(15) == 0 ? number(0, most) : note(own.nextInt(count));
        }

        private int document() {
            return oneOf(documents, 23);
        }

        private int parent() {
            return own.nextInt(3) == 0 ? document() : note(-1);
        }

        private int price() {
            return own.nextInt(30) == 0 ? number(0, 999) : note(own.nextInt(10));
        }

        private int colour() {
            return own.nextInt(30) == 0 ? number(0, 5) : note(own.nextInt(3));
        }

        private int reader() {
            int place = oneOf(readers.size(), 5);
            return place >= 0 && place < readers.size() ? readers.get(place) : place;
        }

        private int query() {
            return oneOf(queries, 29);
        }

        private int most() {
            return own.nextInt(2) == 0 ? note(24) : number(0, 24);
        }

        private boolean flag() {
            return note(own.nextInt(2)) == 1;
        }

        private char kind() {
            return own.nextInt(60) == 0 ? (char) note(own.nextInt(65536)) : "mssnf".charAt(note(own.nextInt(5)));
        }

        Object onHarbour(String name) {
            switch (name) {
                case "fold": return x.fold(word(), word());
                case "setStop": return x.setStop(word(), flag());
                case "joinTo": return x.joinTo(word(), wordOrNone());
                case "draft": return x.draft(field(), word());
                case "add": return x.add(colour(), price(), parent());
                case "delete": return x.delete(document());
                case "setPrice": return x.setPrice(document(), price());
                case "refresh": return x.refresh();
                case "commit": return x.commit();
                case "sync": return x.sync();
                case "crash": return x.crash();
                case "documents": return x.documents();
                case "segments": return x.segments();
                case "segmentAt": return x.segmentAt(number(0, 3), number(0, 5));
                case "open": return x.open();
                case "close": return x.close(reader());
                case "seen": return x.seen(reader());
                case "term": return x.term(field(), word());
                case "phrase": return x.phrase(field(), word(), word(), wordOrNone(), number(0, 4), flag());
                case "priced": return x.priced(number(0, 6), number(3, 9));
                case "coloured": return x.coloured(colour());
                case "boosted": return x.boosted(query(), number(1, 9));
                case "parents": return x.parents(query());
                case "clause": return x.clause(kind(), query());
                case "set": return x.set(number(0, 2));
                case "search": return x.search(reader(), query(), most(), flag());
                case "searchAnew": return x.searchAnew(reader(), query(), most(), flag());
                case "hits": return x.hits();
                case "hitAt": return x.hitAt(number(0, 5));
                case "scoreAt": return x.scoreAt(number(0, 5));
                case "score": return x.score(reader(), query(), document(), flag());
                case "count": return x.count(reader(), query(), colour(), flag());
                case "having": return x.having(reader(), query());
                case "keep": return x.keep(query());
                case "met": return x.met(colour(), price());
                case "operations": return x.operations();
                case "deletedShare": return x.deletedShare();
                case "meanScore": return x.meanScore();
                default: return x.isSound();
            }
        }

        Object onModel(String name) {
            switch (name) {
                case "fold": return model.fold(word(), word());
                case "setStop": return model.setStop(word(), flag());
                case "joinTo": return model.joinTo(word(), wordOrNone());
                case "draft": return model.draft(field(), word());
                case "add": return model.add(colour(), price(), parent());
                case "delete": return model.delete(document());
                case "setPrice": return model.setPrice(document(), price());
                case "refresh": return model.refresh();
                case "commit": return model.commit();
                case "sync": return model.sync();
                case "crash": return model.crash();
                case "documents": return model.documents();
                case "segments": return model.segments();
                case "segmentAt": return model.segmentAt(number(0, 3), number(0, 5));
                case "open": return model.open();
                case "close": return model.close(reader());
                case "seen": return model.seen(reader());
                case "term": return model.term(field(), word());
                case "phrase": return model.phrase(field(), word(), word(), wordOrNone(), number(0, 4), flag());
                case "priced": return model.priced(number(0, 6), number(3, 9));
                case "coloured": return model.coloured(colour());
                case "boosted": return model.boosted(query(), number(1, 9));
                case "parents": return model.parents(query());
                case "clause": return model.clause(kind(), query());
                case "set": return model.set(number(0, 2));
                case "search": case "searchAnew": return model.search(reader(), query(), most(), flag());
                case "hits": return model.hits();
                case "hitAt": return model.hitAt(number(0, 5));
                case "scoreAt": return model.scoreAt(number(0, 5));
                case "score": return model.score(reader(), query(), document(), flag());
                case "count": return model.count(reader(), query(), colour(), flag());
                case "having": return model.having(reader(), query());
                case "keep": return model.keep(query());
                case "met": return model.met(colour(), price());
                case "operations": return model.operations();
                case "deletedShare": return model.deletedShare();
                case "meanScore": return model.meanScore();
                default: return true;
            }
        }
    }
}
