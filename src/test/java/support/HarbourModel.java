import java.util.ArrayList;
import java.util.Collections;
import java.util.Comparator;
import java.util.List;
import java.util.NoSuchElementException;
import java.util.TreeMap;
import java.util.TreeSet;

/**
 * The document written a second time, in lists and plain loops and without a thought of speed:
 * operations are logged and done again, facts are counted anew for each score, and phrases try all
 * positions. It shares no code and no way of holding things with HitHarbour.
 */
final class HarbourModel {
    /** A word at a position, as it was analysed. */
    private static final class Token {
        final int word;
        final int position;

        Token(int word, int position) {
            this.word = word;
            this.position = position;
        }
    }

    private static final class Doc {
        final int number;
        final List<List<Token>> fields = new ArrayList<>();
        final int colour;
        final int parent;

        Doc(int number, int colour, int parent) {
            this.number = number;
            this.colour = colour;
            this.parent = parent;
        }
    }

    private static final class Operation {
        final char kind;
        final Doc doc;
        final int number;
        final int price;

        Operation(char kind, Doc doc, int number, int price) {
            this.kind = kind;
            this.doc = doc;
            this.number = number;
            this.price = price;
        }
    }

    /** What a reader sees. */
    private static final class View {
        final List<List<Doc>> segments = new ArrayList<>();
        final TreeSet<Integer> deleted = new TreeSet<>();
        final TreeMap<Integer, Integer> prices = new TreeMap<>();
        boolean isOpen = true;

        List<Doc> all() {
            List<Doc> all = new ArrayList<>();
            for (List<Doc> segment : segments) {
                all.addAll(living(segment));
            }
            return all;
        }

        List<Doc> living(List<Doc> segment) {
            List<Doc> living = new ArrayList<>();
            for (Doc doc : segment) {
                if (!deleted.contains(doc.number)) {
                    living.add(doc);
                }
            }
            return living;
        }

        List<Doc> segmentOf(Doc doc) {
            for (List<Doc> segment : segments) {
                if (segment.contains(doc)) {
                    return living(segment);
                }
            }
            throw new AssertionError("a document without a segment");
        }
    }

    /** Everything that a crash can take back. */
    private static final class State {
        final List<Doc> docs = new ArrayList<>();
        final TreeSet<Integer> deleted = new TreeSet<>();
        final TreeMap<Integer, Integer> prices = new TreeMap<>();
        List<List<Doc>> segments = new ArrayList<>();
        final List<Doc> buffer = new ArrayList<>();
        View refreshed = new View();

        State copy() {
            State copy = new State();
            copy.docs.addAll(docs);
            copy.deleted.addAll(deleted);
            copy.prices.putAll(prices);
            for (List<Doc> segment : segments) {
                copy.segments.add(new ArrayList<>(segment));
            }
            copy.buffer.addAll(buffer);
            copy.refreshed = refreshed;
            return copy;
        }

        int apply(Operation operation) {
            if (operation.kind == 'a') {
                docs.add(operation.doc);
                prices.put(operation.number, operation.price);
                buffer.add(operation.doc);
                return operation.number;
            }
            if (operation.kind == 'p') {
                return prices.put(operation.number, operation.price);
            }
            int count = 0;
            for (Doc doc : docs) {
                if ((doc.number == operation.number || doc.parent == operation.number)
                        && deleted.add(doc.number)) {
                    count++;
                }
            }
            return count;
        }

        List<Doc> living(List<Doc> among) {
            List<Doc> living = new ArrayList<>();
            for (Doc doc : among) {
                if (!deleted.contains(doc.number)) {
                    living.add(doc);
                }
            }
            return living;
        }

        void refresh() {
            List<Doc> fresh = living(buffer);
            buffer.clear();
            if (!fresh.isEmpty()) {
                segments.add(fresh);
            }
            segments.removeIf(segment -> living(segment).isEmpty());
            while (mergeOnce()) {
                continue;
            }
            refreshed = new View();
            for (List<Doc> segment : segments) {
                refreshed.segments.add(new ArrayList<>(segment));
            }
            refreshed.deleted.addAll(deleted);
            refreshed.prices.putAll(prices);
        }

        private boolean mergeOnce() {
            TreeMap<Integer, List<List<Doc>>> tiers = new TreeMap<>();
            for (List<Doc> segment : segments) {
                int tier = Integer.toBinaryString(living(segment).size()).length();
                tiers.computeIfAbsent(tier, t -> new ArrayList<>()).add(segment);
            }
            for (List<List<Doc>> tier : tiers.values()) {
                if (tier.size() >= 3) {
                    List<Doc> merged = new ArrayList<>();
                    for (int n = 0; n < 3; n++) {
                        merged.addAll(living(tier.get(n)));
                    }
                    merged.sort(Comparator.comparingInt(doc -> doc.number));
                    List<List<Doc>> next = new ArrayList<>();
                    for (List<Doc> segment : segments) {
                        if (segment == tier.get(0)) {
                            next.add(merged);
                        } else if (segment != tier.get(1) && segment != tier.get(2)) {
                            next.add(segment);
                        }
                    }
                    segments = next;
                    return true;
                }
            }
            return false;
        }
    }

    private static final class Query {
        final char kind;
        int size = 1;
        int field;
        int[] words = {};
        int slop;
        boolean isOrdered;
        int least;
        int most;
        int number;
        final List<Character> kinds = new ArrayList<>();
        final List<Query> parts = new ArrayList<>();

        Query(char kind) {
            this.kind = kind;
        }
    }

    private static final class Hit {
        final int number;
        final int score;

        Hit(int number, int score) {
            this.number = number;
            this.score = score;
        }
    }

    private final int[] folds = new int[31];
    private final TreeSet<Integer> stops = new TreeSet<>();
    private final TreeMap<Integer, Integer> joins = new TreeMap<>();
    private List<List<Integer>> draft = List.of(new ArrayList<>(), new ArrayList<>());
    private State state = new State();
    private State committed = new State();
    private final List<Operation> log = new ArrayList<>();
    private int synced = 0;
    private long told = 0;
    private final List<View> readers = new ArrayList<>();
    private final List<Query> queries = new ArrayList<>();
    private final List<Character> clauseKinds = new ArrayList<>();
    private final List<Query> clauseParts = new ArrayList<>();
    private final List<Query> stored = new ArrayList<>();
    private List<Hit> kept = new ArrayList<>();

    HarbourModel() {
        for (int word = 0; word < 31; word++) {
            folds[word] = word;
        }
    }

    /** The numbers of the readers that are open, for those who choose calls. */
    List<Integer> openReaders() {
        List<Integer> open = new ArrayList<>();
        for (int reader = 0; reader < readers.size(); reader++) {
            if (readers.get(reader).isOpen) {
                open.add(reader);
            }
        }
        return open;
    }

    int queryCount() {
        return queries.size();
    }

    int documentCount() {
        return state.docs.size();
    }

    private static void argument(boolean isRight) {
        if (!isRight) {
            throw new IllegalArgumentException();
        }
    }

    private static void range(boolean isRight) {
        if (!isRight) {
            throw new IndexOutOfBoundsException();
        }
    }

    private static void element(boolean isRight) {
        if (!isRight) {
            throw new NoSuchElementException();
        }
    }

    private static void state(boolean isRight) {
        if (!isRight) {
            throw new IllegalStateException();
        }
    }

    private static void size(boolean isRight) {
        if (!isRight) {
            throw new UnsupportedOperationException();
        }
    }

    private static boolean isIn(int number, int least, int most) {
        return least <= number && number <= most;
    }

    int fold(int word, int to) {
        argument(isIn(word, 0, 30) && isIn(to, 0, 30));
        int before = folds[word];
        folds[word] = to;
        return before;
    }

    boolean setStop(int word, boolean isStop) {
        argument(isIn(word, 0, 30));
        boolean was = stops.contains(word);
        if (isStop) {
            stops.add(word);
        } else {
            stops.remove(word);
        }
        return was;
    }

    int joinTo(int word, int other) {
        argument(isIn(word, 0, 30) && isIn(other, -1, 30) && word != other);
        Integer before = other == -1 ? joins.remove(word) : joins.put(word, other);
        return before == null ? -1 : before;
    }

    int draft(int field, int word) {
        range(isIn(field, 0, 1));
        argument(isIn(word, 0, 30));
        state(draft.get(field).size() < 10);
        draft.get(field).add(word);
        return draft.get(field).size();
    }

    private Doc analysed(int number, int colour, int parent) {
        Doc doc = new Doc(number, colour, parent);
        for (List<Integer> words : draft) {
            List<Token> tokens = new ArrayList<>();
            for (int position = 0; position < words.size(); position++) {
                int became = folds[words.get(position)];
                if (!stops.contains(became)) {
                    tokens.add(new Token(became, position));
                    if (joins.containsKey(became)) {
                        tokens.add(new Token(joins.get(became), position));
                    }
                }
            }
            doc.fields.add(tokens);
        }
        return doc;
    }

    private boolean isThere(int document) {
        return isIn(document, 0, state.docs.size() - 1) && !state.deleted.contains(document);
    }

    private int tell(Operation operation) {
        log.add(operation);
        told++;
        return state.apply(operation);
    }

    int add(int colour, int price, int parent) {
        argument(isIn(colour, 0, 5) && isIn(price, 0, 999));
        element(parent == -1 || isThere(parent) && state.docs.get(parent).parent == -1);
        int number = state.docs.size();
        state(number < 24);
        Doc doc = analysed(number, colour, parent);
        draft = List.of(new ArrayList<>(), new ArrayList<>());
        return tell(new Operation('a', doc, number, price));
    }

    int delete(int document) {
        element(isThere(document));
        return tell(new Operation('d', null, document, 0));
    }

    int setPrice(int document, int price) {
        element(isThere(document));
        argument(isIn(price, 0, 999));
        return tell(new Operation('p', null, document, price));
    }

    int refresh() {
        state.refresh();
        return state.segments.size();
    }

    int commit() {
        state.refresh();
        committed = state.copy();
        log.clear();
        synced = 0;
        return state.segments.size();
    }

    int sync() {
        synced = log.size();
        return synced;
    }

    int crash() {
        for (View reader : readers) {
            reader.isOpen = false;
        }
        int lost = log.size() - synced;
        while (log.size() > synced) {
            log.remove(log.size() - 1);
        }
        state = committed.copy();
        for (Operation operation : log) {
            state.apply(operation);
        }
        return lost;
    }

    int documents() {
        return state.docs.size() - state.deleted.size();
    }

    int segments() {
        return state.segments.size();
    }

    int segmentAt(int segment, int place) {
        range(isIn(segment, 0, state.segments.size() - 1));
        range(isIn(place, 0, state.segments.get(segment).size() - 1));
        return state.segments.get(segment).get(place).number;
    }

    int open() {
        state(readers.size() < 6);
        View view = new View();
        view.segments.addAll(state.refreshed.segments);
        view.deleted.addAll(state.refreshed.deleted);
        view.prices.putAll(state.refreshed.prices);
        readers.add(view);
        return readers.size() - 1;
    }

    private View reader(int reader) {
        range(isIn(reader, 0, readers.size() - 1) && readers.get(reader).isOpen);
        return readers.get(reader);
    }

    private Query query(int query) {
        range(isIn(query, 0, queries.size() - 1));
        return queries.get(query);
    }

    int close(int reader) {
        reader(reader).isOpen = false;
        int open = 0;
        for (View view : readers) {
            open += view.isOpen ? 1 : 0;
        }
        return open;
    }

    int seen(int reader) {
        return reader(reader).all().size();
    }

    private int make(Query query) {
        size(query.size <= 20);
        state(queries.size() < 30);
        queries.add(query);
        return queries.size() - 1;
    }

    int term(int field, int word) {
        range(isIn(field, 0, 1));
        argument(isIn(word, 0, 30));
        Query query = new Query('t');
        query.field = field;
        query.words = new int[] {word};
        return make(query);
    }

    int phrase(int field, int a, int b, int c, int slop, boolean isOrdered) {
        range(isIn(field, 0, 1));
        argument(isIn(a, 0, 30) && isIn(b, 0, 30) && isIn(c, -1, 30) && isIn(slop, 0, 9));
        Query query = new Query('h');
        query.field = field;
        query.words = c == -1 ? new int[] {a, b} : new int[] {a, b, c};
        query.slop = slop;
        query.isOrdered = isOrdered;
        return make(query);
    }

    int priced(int least, int most) {
        argument(least <= most);
        Query query = new Query('r');
        query.least = least;
        query.most = most;
        return make(query);
    }

    int coloured(int colour) {
        argument(isIn(colour, 0, 5));
        Query query = new Query('c');
        query.number = colour;
        return make(query);
    }

    int boosted(int part, int factor) {
        Query query = new Query('b');
        query.parts.add(query(part));
        argument(isIn(factor, 1, 9));
        query.number = factor;
        query.size = 1 + query.parts.get(0).size;
        return make(query);
    }

    int parents(int part) {
        Query query = new Query('p');
        query.parts.add(query(part));
        query.size = 1 + query.parts.get(0).size;
        return make(query);
    }

    int clause(char kind, int part) {
        argument("msnf".indexOf(kind) >= 0);
        Query query = query(part);
        state(clauseKinds.size() < 6);
        clauseKinds.add(kind);
        clauseParts.add(query);
        return clauseKinds.size();
    }

    int set(int least) {
        argument(isIn(least, 0, 6) && !clauseKinds.isEmpty());
        Query query = new Query('s');
        query.least = least;
        query.kinds.addAll(clauseKinds);
        query.parts.addAll(clauseParts);
        for (Query part : query.parts) {
            query.size += part.size;
        }
        int number = make(query);
        clauseKinds.clear();
        clauseParts.clear();
        return number;
    }

    private static int often(Query query, Doc doc) {
        List<List<Integer>> places = new ArrayList<>();
        for (int word : query.words) {
            List<Integer> of = new ArrayList<>();
            for (Token token : doc.fields.get(query.field)) {
                if (token.word == word) {
                    of.add(token.position);
                }
            }
            places.add(of);
        }
        TreeSet<Integer> begins = new TreeSet<>();
        tryAll(query, places, new ArrayList<>(), begins);
        return begins.size();
    }

    private static void tryAll(Query query, List<List<Integer>> places, List<Integer> taken, TreeSet<Integer> begins) {
        if (taken.size() == places.size()) {
            List<Integer> rising = new ArrayList<>(taken);
            Collections.sort(rising);
            boolean areDifferent = new TreeSet<>(taken).size() == taken.size();
            int width = rising.get(rising.size() - 1) - rising.get(0);
            boolean isNear = width <= query.slop + taken.size() - 1;
            if (areDifferent && isNear && (!query.isOrdered || rising.equals(taken))) {
                begins.add(rising.get(0));
            }
            return;
        }
        for (int place : places.get(taken.size())) {
            taken.add(place);
            tryAll(query, places, taken, begins);
            taken.remove(taken.size() - 1);
        }
    }

    private static int textScore(View view, Query query, Doc doc, boolean isLocal) {
        List<Doc> facts = isLocal ? view.segmentOf(doc) : view.all();
        int having = 0;
        for (Doc other : facts) {
            having += often(query, other) > 0 ? 1 : 0;
        }
        int score = 1000 * often(query, doc) * (facts.size() + 1) / (having + 1);
        return score / (doc.fields.get(query.field).size() + 3);
    }

    /** The score, or null without a match; what is left out is one set whose own colours are. */
    private static Integer grade(View view, Query query, Doc doc, boolean isLocal, Query leftOut) {
        switch (query.kind) {
            case 't':
            case 'h':
                return often(query, doc) == 0 ? null : (Integer) textScore(view, query, doc, isLocal);
            case 'r':
                return isIn(view.prices.get(doc.number), query.least, query.most) ? 0 : null;
            case 'c':
                return doc.colour == query.number ? 0 : null;
            case 'b':
                Integer plain = grade(view, query.parts.get(0), doc, isLocal, null);
                return plain == null ? null : (Integer) (plain * query.number);
            case 'p':
                Integer best = null;
                for (Doc child : view.all()) {
                    if (doc.parent == -1 && child.parent == doc.number) {
                        Integer of = grade(view, query.parts.get(0), child, isLocal, null);
                        best = best == null || of != null && of > best ? of : best;
                    }
                }
                return best;
            default:
                return gradeSet(view, query, doc, isLocal, leftOut == query);
        }
    }

    private static Integer gradeSet(View view, Query set, Doc doc, boolean isLocal, boolean isLeftOut) {
        int sum = 0;
        int shoulds = 0;
        boolean isFirm = false;
        boolean isMatch = true;
        for (int n = 0; n < set.kinds.size(); n++) {
            char kind = set.kinds.get(n);
            Query part = set.parts.get(n);
            Integer of = grade(view, part, doc, isLocal, null);
            boolean isIn = of != null || isLeftOut && kind == 'f' && part.kind == 'c';
            isFirm |= kind == 'm' || kind == 'f';
            isMatch &= kind == 's' || isIn == (kind != 'n');
            shoulds += kind == 's' && isIn ? 1 : 0;
            sum += (kind == 's' || kind == 'm') && of != null ? of : 0;
        }
        isMatch &= shoulds >= set.least && (isFirm || set.least > 0 || shoulds > 0);
        return isMatch ? sum : null;
    }

    int search(int reader, int query, int most, boolean isLocal) {
        View view = reader(reader);
        Query asked = query(query);
        argument(isIn(most, 0, 24));
        List<Hit> hits = new ArrayList<>();
        for (Doc doc : view.all()) {
            Integer grade = grade(view, asked, doc, isLocal, null);
            if (grade != null) {
                hits.add(new Hit(doc.number, grade));
            }
        }
        hits.sort((a, b) -> a.score != b.score
                ? Integer.compare(b.score, a.score) : Integer.compare(a.number, b.number));
        kept = new ArrayList<>(hits.subList(0, Math.min(most, hits.size())));
        return hits.size();
    }

    int hits() {
        return kept.size();
    }

    int hitAt(int index) {
        range(isIn(index, 0, kept.size() - 1));
        return kept.get(index).number;
    }

    int scoreAt(int index) {
        range(isIn(index, 0, kept.size() - 1));
        return kept.get(index).score;
    }

    int score(int reader, int query, int document, boolean isLocal) {
        View view = reader(reader);
        Query asked = query(query);
        Integer grade = null;
        for (Doc doc : view.all()) {
            grade = doc.number == document ? grade(view, asked, doc, isLocal, null) : grade;
        }
        element(grade != null);
        return grade;
    }

    int count(int reader, int query, int colour, boolean isOwn) {
        View view = reader(reader);
        Query asked = query(query);
        argument(isIn(colour, 0, 5));
        int count = 0;
        for (Doc doc : view.all()) {
            boolean isMatch = grade(view, asked, doc, false, isOwn ? asked : null) != null;
            count += isMatch && doc.colour == colour ? 1 : 0;
        }
        return count;
    }

    int having(int reader, int query) {
        View view = reader(reader);
        Query asked = query(query);
        int count = 0;
        for (Doc doc : view.all()) {
            count += grade(view, asked, doc, false, null) != null ? 1 : 0;
        }
        return count;
    }

    int keep(int query) {
        Query asked = query(query);
        state(stored.size() < 8);
        stored.add(asked);
        return stored.size();
    }

    int met(int colour, int price) {
        argument(isIn(colour, 0, 5) && isIn(price, 0, 999));
        Doc doc = analysed(0, colour, -1);
        View view = new View();
        view.segments.add(List.of(doc));
        view.prices.put(0, price);
        int sum = 0;
        for (int n = 0; n < stored.size(); n++) {
            sum += grade(view, stored.get(n), doc, false, null) != null ? (int) Math.pow(2, n) : 0;
        }
        return sum;
    }

    long operations() {
        return told;
    }

    float deletedShare() {
        int all = 0;
        int deleted = 0;
        for (List<Doc> segment : state.segments) {
            all += segment.size();
            deleted += segment.size() - state.living(segment).size();
        }
        if (all == 0) {
            throw new ArithmeticException();
        }
        return (float) deleted / (float) all;
    }

    double meanScore() {
        if (kept.isEmpty()) {
            throw new ArithmeticException();
        }
        double sum = 0;
        for (Hit hit : kept) {
            sum += hit.score;
        }
        return sum / kept.size();
    }
}
