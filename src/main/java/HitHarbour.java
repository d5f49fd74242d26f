import java.util.NoSuchElementException;

/**
 * A harbour of documents that are searched while they come.
 *
 * Sets of documents, words, positions, queries and readers are the bits of an int. All rows are
 * made in constructors and used again, so that no call of the face makes an object but an exception.
 */
public final class HitHarbour {
    private static final int WORDS = 31;
    private static final int FIELDS = 2;
    private static final int DRAFT_WORDS = 10;
    private static final int COLOURS = 6;
    private static final int PRICES = 1000;
    private static final int DOCUMENTS = 24;
    /** Behind the documents there is a row for a draft that meets stored queries. */
    private static final int DRAFT_ROW = DOCUMENTS;
    private static final int ROWS = DOCUMENTS + 1;
    /** No segment has more documents than five binary digits can count. */
    private static final int TIERS = 5;
    private static final int MERGED_AT_ONCE = 3;
    private static final int READERS = 6;
    private static final int QUERIES = 30;
    private static final int GREATEST_SIZE = 20;
    private static final int PHRASE_WORDS = 3;
    private static final int GREATEST_SLOP = 9;
    private static final int GREATEST_FACTOR = 9;
    private static final int CLAUSES = 6;
    private static final int STORED = 8;
    private static final int NOTHING = -1;
    /** A grade that no score can be. */
    private static final long NO_MATCH = 1L << 32;

    /** A term or a phrase: one to three words. */
    private static final int TEXT = 1;
    private static final int PRICED = 2;
    private static final int COLOURED = 3;
    private static final int BOOSTED = 4;
    private static final int PARENTS = 5;
    private static final int SET = 6;

    private static final char MUST = 'm';
    private static final char SHOULD = 's';
    private static final char MUST_NOT = 'n';
    private static final char FILTER = 'f';

    private final Lexicon lexicon;
    private final Draft drafted;
    private final Journal journal;
    private final Index index;
    private final Moment[] readers;
    private final Moment draftAlone;
    private final Query nextSet;
    private final int[] stored;
    private final Hits best;
    private final Hits bestAtOnce;
    private final Hits bestAnew;
    private int readerCount = 0;
    private int openReaders = 0;
    private int storedCount = 0;

    public HitHarbour() {
        lexicon = new Lexicon();
        drafted = new Draft();
        journal = new Journal();
        index = new Index();
        readers = new Moment[READERS];
        for (int reader = 0; reader < READERS; reader++) {
            readers[reader] = new Moment();
        }
        draftAlone = new Moment();
        nextSet = new Query();
        stored = new int[STORED];
        best = new Hits();
        bestAtOnce = new Hits();
        bestAnew = new Hits();
    }

    // ---- words

    public int fold(int word, int to) throws IllegalArgumentException {
        needWord(word);
        needWord(to);
        int before = lexicon.folds[word];
        lexicon.folds[word] = to;
        return before;
    }

    public boolean setStop(int word, boolean isStop) throws IllegalArgumentException {
        needWord(word);
        boolean was = has(lexicon.stops, word);
        int bit = 1 << word;
        lexicon.stops = isStop ? lexicon.stops | bit : lexicon.stops & ~bit;
        return was;
    }

    public int joinTo(int word, int other) throws IllegalArgumentException {
        needWord(word);
        if (other != NOTHING) {
            needWord(other);
        }
        if (word == other) {
            throw new IllegalArgumentException("a word can't join itself");
        }
        int before = lexicon.joins[word];
        lexicon.joins[word] = other;
        return before;
    }

    // ---- writing

    public int draft(int field, int word)
            throws IndexOutOfBoundsException, IllegalArgumentException, IllegalStateException {
        needField(field);
        needWord(word);
        int length = drafted.lengths[field];
        if (length < 0 || length >= DRAFT_WORDS) {
            throw new IllegalStateException("the field of the draft is full");
        }
        drafted.words[field][length] = word;
        drafted.lengths[field] = length + 1;
        return length + 1;
    }

    public int add(int colour, int price, int parent)
            throws IllegalArgumentException, NoSuchElementException, IllegalStateException {
        needColour(colour);
        needPrice(price);
        if (parent != NOTHING) {
            needParent(parent);
        }
        Ledger told = journal.told;
        int number = told.numbered;
        if (number < 0 || number >= DOCUMENTS) {
            throw new IllegalStateException("there were 24 documents");
        }
        analyse(number, colour, parent);
        drafted.clear();
        told.numbered = number + 1;
        told.alive |= 1 << number;
        told.prices[number] = price;
        journal.countOperation();
        return number;
    }

    public int delete(int document) throws NoSuchElementException {
        needDocument(document);
        Ledger told = journal.told;
        int gone = 1 << document;
        for (int other = 0; other < DOCUMENTS; other++) {
            if (has(told.alive, other) && index.documents[other].parent == document) {
                gone |= 1 << other;
            }
        }
        told.alive &= ~gone;
        journal.countOperation();
        return Integer.bitCount(gone);
    }

    public int setPrice(int document, int price) throws NoSuchElementException, IllegalArgumentException {
        needDocument(document);
        needPrice(price);
        Ledger told = journal.told;
        int before = told.prices[document];
        told.prices[document] = price;
        journal.countOperation();
        return before;
    }

    public int refresh() {
        journal.latest.renew(journal.told);
        return journal.latest.segmentCount;
    }

    public int commit() {
        journal.keepAll();
        return journal.latest.segmentCount;
    }

    public int sync() {
        return journal.keepOperations();
    }

    public int crash() {
        openReaders = 0;
        return journal.goBack();
    }

    public int documents() {
        return Integer.bitCount(journal.told.alive);
    }

    public int segments() {
        return journal.latest.segmentCount;
    }

    public int segmentAt(int segment, int place) throws IndexOutOfBoundsException {
        Moment latest = journal.latest;
        if (segment < 0 || segment >= latest.segmentCount || segment >= ROWS) {
            throw new IndexOutOfBoundsException("there is no such segment");
        }
        int document = bitAt(latest.segments[segment], place);
        if (document == NOTHING) {
            throw new IndexOutOfBoundsException("there is no such place");
        }
        return document;
    }

    public int open() throws IllegalStateException {
        int reader = readerCount;
        if (reader < 0 || reader >= READERS) {
            throw new IllegalStateException("there were 6 readers");
        }
        readers[reader].take(journal.latest);
        openReaders |= 1 << reader;
        readerCount = reader + 1;
        return reader;
    }

    public int close(int reader) throws IndexOutOfBoundsException {
        needReader(reader);
        openReaders &= ~(1 << reader);
        return Integer.bitCount(openReaders);
    }

    public int seen(int reader) throws IndexOutOfBoundsException {
        needReader(reader);
        return Integer.bitCount(readers[reader].ledger.alive);
    }

    // ---- queries

    public int term(int field, int word)
            throws IndexOutOfBoundsException, IllegalArgumentException, IllegalStateException {
        needField(field);
        needWord(word);
        Query made = index.queries[roomForQuery()];
        made.kind = TEXT;
        made.field = field;
        made.words[0] = word;
        made.wordCount = 1;
        return index.finishQuery();
    }

    public int phrase(int field, int a, int b, int c, int slop, boolean isOrdered)
            throws IndexOutOfBoundsException, IllegalArgumentException, IllegalStateException {
        needField(field);
        needWord(a);
        needWord(b);
        if (c != NOTHING) {
            needWord(c);
        }
        if (slop < 0 || slop > GREATEST_SLOP) {
            throw new IllegalArgumentException("the slop is out of range");
        }
        Query made = index.queries[roomForQuery()];
        made.kind = TEXT;
        made.field = field;
        made.words[0] = a;
        made.words[1] = b;
        made.words[2] = c;
        made.wordCount = c == NOTHING ? 2 : 3;
        made.slop = slop;
        made.isOrdered = isOrdered;
        return index.finishQuery();
    }

    public int priced(int least, int most) throws IllegalArgumentException, IllegalStateException {
        if (least > most) {
            throw new IllegalArgumentException("the least price is above the greatest one");
        }
        Query made = index.queries[roomForQuery()];
        made.kind = PRICED;
        made.least = least;
        made.most = most;
        return index.finishQuery();
    }

    public int coloured(int colour) throws IllegalArgumentException, IllegalStateException {
        needColour(colour);
        Query made = index.queries[roomForQuery()];
        made.kind = COLOURED;
        made.colour = colour;
        return index.finishQuery();
    }

    public int boosted(int query, int factor) throws IndexOutOfBoundsException, IllegalArgumentException,
            UnsupportedOperationException, IllegalStateException {
        needQuery(query);
        if (factor < 1 || factor > GREATEST_FACTOR) {
            throw new IllegalArgumentException("the factor is out of range");
        }
        int size = index.queries[query].size + 1;
        needSize(size);
        Query made = index.queries[roomForQuery()];
        made.kind = BOOSTED;
        made.size = size;
        made.factor = factor;
        made.append(MUST, query);
        return index.finishQuery();
    }

    public int parents(int query)
            throws IndexOutOfBoundsException, UnsupportedOperationException, IllegalStateException {
        needQuery(query);
        int size = index.queries[query].size + 1;
        needSize(size);
        Query made = index.queries[roomForQuery()];
        made.kind = PARENTS;
        made.size = size;
        made.append(MUST, query);
        return index.finishQuery();
    }

    public int clause(char kind, int query)
            throws IllegalArgumentException, IndexOutOfBoundsException, IllegalStateException {
        if (kind != MUST && kind != SHOULD && kind != MUST_NOT && kind != FILTER) {
            throw new IllegalArgumentException("there is no such kind");
        }
        needQuery(query);
        if (nextSet.partCount >= CLAUSES) {
            throw new IllegalStateException("there are 6 clauses");
        }
        nextSet.append(kind, query);
        return nextSet.partCount;
    }

    public int set(int least)
            throws IllegalArgumentException, UnsupportedOperationException, IllegalStateException {
        if (least < 0 || least > CLAUSES) {
            throw new IllegalArgumentException("the number is out of range");
        }
        if (nextSet.partCount == 0) {
            throw new IllegalArgumentException("there are no clauses");
        }
        int size = index.sizeWithParts(nextSet);
        needSize(size);
        Query made = index.queries[roomForQuery()];
        made.kind = SET;
        made.size = size;
        made.least = least;
        for (int clause = 0; clause < nextSet.partCount && clause < CLAUSES; clause++) {
            made.append(nextSet.kinds[clause], nextSet.parts[clause]);
        }
        nextSet.partCount = 0;
        return index.finishQuery();
    }

    // ---- searching

    public int search(int reader, int query, int most, boolean isLocal)
            throws IndexOutOfBoundsException, IllegalArgumentException {
        needReader(reader);
        needQuery(query);
        needMost(most);
        index.lookAt(readers[reader], isLocal);
        best.start(most);
        return index.gather(query, best);
    }

    public int searchAnew(int reader, int query, int most, boolean isLocal)
            throws IndexOutOfBoundsException, IllegalArgumentException {
        needReader(reader);
        needQuery(query);
        needMost(most);
        index.lookAt(readers[reader], isLocal);
        best.start(most);
        return index.gatherAnew(query, best);
    }

    public int hits() {
        return best.size;
    }

    public int hitAt(int index) throws IndexOutOfBoundsException {
        needHit(index);
        return best.numbers[index];
    }

    public int scoreAt(int index) throws IndexOutOfBoundsException {
        needHit(index);
        return best.scores[index];
    }

    public int score(int reader, int query, int document, boolean isLocal)
            throws IndexOutOfBoundsException, NoSuchElementException {
        needReader(reader);
        needQuery(query);
        index.lookAt(readers[reader], isLocal);
        long grade = index.gradeOf(query, document, 1);
        if (grade == NO_MATCH) {
            throw new NoSuchElementException("the reader has no such document that matches");
        }
        return (int) grade;
    }

    public int count(int reader, int query, int colour, boolean isOwn)
            throws IndexOutOfBoundsException, IllegalArgumentException {
        needReader(reader);
        needQuery(query);
        needColour(colour);
        index.lookAt(readers[reader], false);
        int matching = isOwn ? index.matchingWithoutOwn(query) : index.matchingOf(query);
        return Integer.bitCount(matching & index.ofColour(colour));
    }

    public int having(int reader, int query) throws IndexOutOfBoundsException {
        needReader(reader);
        needQuery(query);
        index.lookAt(readers[reader], false);
        return Integer.bitCount(index.matchingOf(query));
    }

    public int keep(int query) throws IndexOutOfBoundsException, IllegalStateException {
        needQuery(query);
        int place = storedCount;
        if (place < 0 || place >= STORED) {
            throw new IllegalStateException("8 queries are stored");
        }
        stored[place] = query;
        storedCount = place + 1;
        return storedCount;
    }

    public int met(int colour, int price) throws IllegalArgumentException {
        needColour(colour);
        needPrice(price);
        analyse(DRAFT_ROW, colour, NOTHING);
        draftAlone.showOnly(DRAFT_ROW, price);
        index.lookAt(draftAlone, false);
        int sum = 0;
        for (int place = 0; place < storedCount && place < STORED; place++) {
            if (index.gradeOf(stored[place], DRAFT_ROW, 1) != NO_MATCH) {
                sum += 1 << place;
            }
        }
        return sum;
    }

    // ---- figures

    public long operations() {
        return journal.operationCount;
    }

    public float deletedShare() throws ArithmeticException {
        int there = 0;
        Moment latest = journal.latest;
        for (int segment = 0; segment < latest.segmentCount && segment < ROWS; segment++) {
            there |= latest.segments[segment];
        }
        if (there == 0) {
            throw new ArithmeticException("there are no documents in segments");
        }
        int deleted = there & ~journal.told.alive;
        return (float) Integer.bitCount(deleted) / (float) Integer.bitCount(there);
    }

    public double meanScore() throws ArithmeticException {
        if (best.size <= 0) {
            throw new ArithmeticException("there are no hits");
        }
        long sum = 0;
        for (int hit = 0; hit < best.size && hit < DOCUMENTS; hit++) {
            sum += best.scores[hit];
        }
        return (double) sum / (double) best.size;
    }

    public boolean isSound() {
        for (int reader = 0; reader < READERS; reader++) {
            boolean isOpen = has(openReaders, reader);
            if (isOpen && !(bothWaysAgree(readers[reader], false) && bothWaysAgree(readers[reader], true))) {
                return false;
            }
        }
        return journal.hasEachOnce();
    }

    // ---- what calls need

    private static void needWord(int word) {
        if (!isWord(word)) {
            throw new IllegalArgumentException("there is no such word");
        }
    }

    private static void needField(int field) {
        if (!isField(field)) {
            throw new IndexOutOfBoundsException("there is no such field");
        }
    }

    private static void needColour(int colour) {
        if (colour < 0 || colour >= COLOURS) {
            throw new IllegalArgumentException("there is no such colour");
        }
    }

    private static void needPrice(int price) {
        if (price < 0 || price >= PRICES) {
            throw new IllegalArgumentException("the price is out of range");
        }
    }

    private static void needMost(int most) {
        if (most < 0 || most > DOCUMENTS) {
            throw new IllegalArgumentException("the number of hits is out of range");
        }
    }

    private static void needSize(int size) {
        if (size > GREATEST_SIZE) {
            throw new UnsupportedOperationException("the query would be too great");
        }
    }

    private void needDocument(int document) {
        if (!journal.told.isAlive(document)) {
            throw new NoSuchElementException("there is no such document, or it was deleted");
        }
    }

    private void needParent(int parent) {
        needDocument(parent);
        if (index.documents[parent].parent != NOTHING) {
            throw new NoSuchElementException("the parent has a parent");
        }
    }

    private void needReader(int reader) {
        if (reader < 0 || reader >= READERS || !has(openReaders, reader)) {
            throw new IndexOutOfBoundsException("there is no such reader, or it was closed");
        }
    }

    private void needQuery(int query) {
        if (!index.isQuery(query)) {
            throw new IndexOutOfBoundsException("there is no such query");
        }
    }

    private void needHit(int hit) {
        if (hit < 0 || hit >= best.size || hit >= DOCUMENTS) {
            throw new IndexOutOfBoundsException("there is no such hit");
        }
    }

    /** The number of the query that is made next. */
    private int roomForQuery() {
        int number = index.queryCount;
        if (number < 0 || number >= QUERIES) {
            throw new IllegalStateException("there are 30 queries");
        }
        return number;
    }

    // ---- parts of calls

    /** Makes a row the draft's document, as words are told now. */
    private void analyse(int row, int colour, int parent) {
        Document document = index.documents[row];
        document.clear();
        document.colour = colour;
        document.parent = parent;
        for (int field = 0; field < FIELDS; field++) {
            for (int place = 0; place < drafted.lengths[field] && place < DRAFT_WORDS; place++) {
                int became = lexicon.becoming(drafted.words[field][place]);
                if (became != NOTHING) {
                    document.put(field, became, place);
                    document.put(field, lexicon.joining(became), place);
                }
            }
        }
        index.countTexts(row);
    }

    private boolean bothWaysAgree(Moment reader, boolean isLocal) {
        index.lookAt(reader, isLocal);
        for (int query = 0; query < index.queryCount && query < QUERIES; query++) {
            bestAtOnce.start(DOCUMENTS);
            bestAnew.start(DOCUMENTS);
            int atOnce = index.gather(query, bestAtOnce);
            int anew = index.gatherAnew(query, bestAnew);
            if (atOnce != anew || !bestAtOnce.isLike(bestAnew)) {
                return false;
            }
        }
        return true;
    }

    private static boolean isWord(int word) {
        return word >= 0 && word < WORDS;
    }

    private static boolean isField(int field) {
        return field >= 0 && field < FIELDS;
    }

    private static boolean isRow(int row) {
        return row >= 0 && row < ROWS;
    }

    private static boolean has(int bits, int place) {
        return (bits >> place & 1) != 0;
    }

    /** The bits below a place from 0 to 31. */
    private static int below(int place) {
        return (1 << place) - 1;
    }

    /** Which bit is the one with so many below it, or NOTHING. */
    private static int bitAt(int bits, int rank) {
        int left = rank;
        for (int place = 0; place < ROWS; place++) {
            if (has(bits, place)) {
                if (left == 0) {
                    return place;
                }
                left--;
            }
        }
        return NOTHING;
    }

    /** Divides what is not below 0 by what is above 0. */
    private static int per(int number, int divisor) {
        return divisor > 0 ? number / divisor : 0;
    }

    /** Which words are folded, dropped and joined by others. */
    private static final class Lexicon {
        final int[] folds = new int[WORDS];
        final int[] joins = new int[WORDS];
        int stops = 0;

        Lexicon() {
            for (int word = 0; word < WORDS; word++) {
                folds[word] = word;
                joins[word] = NOTHING;
            }
        }

        /** What a word becomes, or NOTHING if it is dropped. */
        int becoming(int word) {
            if (!isWord(word)) {
                return NOTHING;
            }
            int folded = folds[word];
            return has(stops, folded) ? NOTHING : folded;
        }

        /** The word that joins one, or NOTHING. */
        int joining(int word) {
            return isWord(word) ? joins[word] : NOTHING;
        }
    }

    /** The words that the next document is made of. */
    private static final class Draft {
        final int[][] words = new int[FIELDS][DRAFT_WORDS];
        final int[] lengths = new int[FIELDS];

        void clear() {
            for (int field = 0; field < FIELDS; field++) {
                lengths[field] = 0;
            }
        }
    }

    /** A document as it was analysed; what can be told of it later is in a ledger. */
    private static final class Document {
        /** The positions of a word in a field. */
        final int[][] positions = new int[FIELDS][WORDS];
        final int[] lengths = new int[FIELDS];
        int colour = 0;
        int parent = NOTHING;

        void clear() {
            for (int field = 0; field < FIELDS; field++) {
                lengths[field] = 0;
                for (int word = 0; word < WORDS; word++) {
                    positions[field][word] = 0;
                }
            }
        }

        /** Puts a word, if it is one, at a position. */
        void put(int field, int word, int position) {
            if (isField(field) && isWord(word)) {
                positions[field][word] |= 1 << position;
                lengths[field]++;
            }
        }

        // These two test for themselves, as calls that end here are as deep as LANGUAGE.md allows.

        int positionsOf(int field, int word) {
            boolean isThere = field >= 0 && field < FIELDS && word >= 0 && word < WORDS;
            return isThere ? positions[field][word] : 0;
        }

        int lengthOf(int field) {
            return field >= 0 && field < FIELDS ? lengths[field] : 0;
        }
    }

    /** How many documents were numbered, which of them were not deleted, and their prices. */
    private static final class Ledger {
        int numbered = 0;
        int alive = 0;
        final int[] prices = new int[ROWS];

        boolean isAlive(int document) {
            return document >= 0 && document < DOCUMENTS && has(alive, document);
        }

        void take(Ledger other) {
            numbered = other.numbered;
            alive = other.alive;
            for (int row = 0; row < ROWS; row++) {
                prices[row] = other.prices[row];
            }
        }
    }

    /** Segments, deletions and prices as they were at a refreshing. */
    private static final class Moment {
        final Ledger ledger = new Ledger();
        /** The documents of each segment, deleted ones too; their order is that of their numbers. */
        final int[] segments = new int[ROWS];
        int segmentCount = 0;

        void take(Moment other) {
            ledger.take(other.ledger);
            segmentCount = other.segmentCount;
            for (int row = 0; row < ROWS; row++) {
                segments[row] = other.segments[row];
            }
        }

        /** Has one document alone, in no segment: it is matched, but not scored by local facts. */
        void showOnly(int row, int price) {
            if (isRow(row)) {
                ledger.alive = 1 << row;
                ledger.prices[row] = price;
            }
        }

        /** The documents that were not deleted and come behind those of this moment. */
        int buffered(Ledger told) {
            return told.alive & ~below(ledger.numbered);
        }

        /** Refreshes to what has been told. */
        void renew(Ledger told) {
            int fresh = buffered(told);
            ledger.take(told);
            dropEmptySegments();
            if (fresh != 0 && segmentCount >= 0 && segmentCount < ROWS) {
                segments[segmentCount] = fresh;
                segmentCount++;
            }
            for (int round = 0; round < ROWS; round++) {
                int tier = lowestFullTier();
                if (tier == NOTHING) {
                    return;
                }
                mergeFirstOf(tier);
            }
        }

        private void dropEmptySegments() {
            int left = 0;
            for (int segment = 0; segment < segmentCount && segment < ROWS; segment++) {
                if ((segments[segment] & ledger.alive) != 0) {
                    segments[left] = segments[segment];
                    left++;
                }
            }
            segmentCount = left;
        }

        private int lowestFullTier() {
            for (int tier = 1; tier <= TIERS; tier++) {
                int found = 0;
                for (int segment = 0; segment < segmentCount && segment < ROWS; segment++) {
                    if (tierOf(segments[segment]) == tier) {
                        found++;
                    }
                }
                if (found >= MERGED_AT_ONCE) {
                    return tier;
                }
            }
            return NOTHING;
        }

        private int tierOf(int segment) {
            int number = Integer.bitCount(segment & ledger.alive);
            int digits = 0;
            for (int digit = 0; digit < TIERS; digit++) {
                if (has(number, digit)) {
                    digits = digit + 1;
                }
            }
            return digits;
        }

        private void mergeFirstOf(int tier) {
            int taken = 0;
            int merged = 0;
            int place = 0;
            int left = 0;
            for (int segment = 0; segment < segmentCount && segment < ROWS; segment++) {
                int documents = segments[segment];
                boolean isTaken = taken < MERGED_AT_ONCE && tierOf(documents) == tier;
                if (isTaken) {
                    merged |= documents & ledger.alive;
                    taken++;
                }
                if (isTaken && taken == 1) {
                    place = left;
                }
                if (!isTaken || taken == 1) {
                    segments[left] = documents;
                    left++;
                }
            }
            segments[place] = merged;
            segmentCount = left;
        }

        /** The documents that were not deleted in the segment of one. */
        int livingBeside(int row) {
            for (int segment = 0; segment < segmentCount && segment < ROWS; segment++) {
                if (has(segments[segment], row)) {
                    return segments[segment] & ledger.alive;
                }
            }
            return 0;
        }
    }

    /** What was told, and which of it was refreshed, committed and synced. */
    private static final class Journal {
        final Ledger told = new Ledger();
        final Ledger synced = new Ledger();
        final Moment latest = new Moment();
        final Moment committed = new Moment();
        long operationCount = 0;
        /** Operations behind the latest committing that are not lost, and those of them that are kept. */
        private int sinceCommit = 0;
        private int syncedSinceCommit = 0;

        void countOperation() {
            operationCount++;
            sinceCommit++;
        }

        void keepAll() {
            latest.renew(told);
            committed.take(latest);
            synced.take(told);
            sinceCommit = 0;
            syncedSinceCommit = 0;
        }

        int keepOperations() {
            synced.take(told);
            syncedSinceCommit = sinceCommit;
            return syncedSinceCommit;
        }

        /**
         * Crashes. The ledger as it was synced is what the synced operations make of the committed
         * one, so none of them is done again; documents behind those committed are in the buffer.
         */
        int goBack() {
            int lost = sinceCommit - syncedSinceCommit;
            latest.take(committed);
            told.take(synced);
            sinceCommit = syncedSinceCommit;
            return lost;
        }

        /** Whether each document that was not deleted is in one segment or the buffer. */
        boolean hasEachOnce() {
            int once = latest.buffered(told);
            for (int segment = 0; segment < latest.segmentCount && segment < ROWS; segment++) {
                int living = latest.segments[segment] & told.alive;
                if ((once & living) != 0) {
                    return false;
                }
                once |= living;
            }
            return once == told.alive;
        }
    }

    /** A query, or the clauses of the next set. */
    private static final class Query {
        int kind = 0;
        int size = 1;
        int field = 0;
        final int[] words = new int[PHRASE_WORDS];
        int wordCount = 0;
        int slop = 0;
        boolean isOrdered = false;
        /** The least price of a range, or how many clauses of a set should match. */
        int least = 0;
        int most = 0;
        int colour = 0;
        int factor = 1;
        /** The parts of which a query is made, and what kinds of clauses they are in a set. */
        final int[] parts = new int[CLAUSES];
        final char[] kinds = new char[CLAUSES];
        int partCount = 0;

        void append(char partKind, int part) {
            if (partCount >= 0 && partCount < CLAUSES) {
                parts[partCount] = part;
                kinds[partCount] = partKind;
                partCount++;
            }
        }

        boolean isInRange(int price) {
            return price >= least && price <= most;
        }

        /** How many clauses of a set should match indeed. */
        int leastToMatch() {
            if (least > 0) {
                return least;
            }
            for (int part = 0; part < partCount && part < CLAUSES; part++) {
                if (kinds[part] == MUST || kinds[part] == FILTER) {
                    return 0;
                }
            }
            return 1;
        }

        /** At how many positions matches of the words begin. */
        int oftenIn(Document document) {
            int often = 0;
            for (int position = 0; position < DRAFT_WORDS; position++) {
                // The positions that a match has behind its least one.
                int reach = below(position + slop + wordCount) & ~below(position + 1);
                boolean begins = isOrdered
                        ? beginsInOrder(document, position, reach)
                        : beginsInAnyOrder(document, position, reach);
                if (begins) {
                    often++;
                }
            }
            return often;
        }

        private boolean beginsInOrder(Document document, int position, int reach) {
            if (!has(document.positionsOf(field, words[0]), position)) {
                return false;
            }
            int free = reach;
            for (int word = 1; word < wordCount && word < PHRASE_WORDS; word++) {
                int there = document.positionsOf(field, words[word]) & free;
                if (there == 0) {
                    return false;
                }
                // The first position leaves most of them for the word that is next.
                int first = there & -there;
                free &= -(first << 1);
            }
            return true;
        }

        private boolean beginsInAnyOrder(Document document, int position, int reach) {
            for (int word = 0; word < wordCount && word < PHRASE_WORDS; word++) {
                boolean isThere = has(document.positionsOf(field, words[word]), position);
                if (isThere && othersFit(document, reach, word)) {
                    return true;
                }
            }
            return false;
        }

        /** Whether the words beside one have different positions in a reach. */
        private boolean othersFit(Document document, int reach, int beside) {
            int together = 0;
            for (int word = 0; word < wordCount && word < PHRASE_WORDS; word++) {
                int there = document.positionsOf(field, words[word]) & reach;
                if (word != beside) {
                    if (there == 0) {
                        return false;
                    }
                    together |= there;
                }
            }
            // Two words that have a position each need only have two positions together.
            return Integer.bitCount(together) >= wordCount - 1;
        }
    }

    /** The documents, the queries, and which match which, at a moment that is looked at. */
    private static final class Index {
        final Document[] documents = new Document[ROWS];
        final Query[] queries = new Query[QUERIES];
        int queryCount = 0;
        /** How often a text is in a document, and which documents have it at all. */
        private final int[][] often = new int[QUERIES][ROWS];
        private final int[] carriers = new int[QUERIES];
        /** Which queries were matched all at once at this moment, their documents and the scores. */
        private int matched = 0;
        private final int[] matching = new int[QUERIES];
        private final int[][] scores = new int[QUERIES][ROWS];
        private Moment moment = new Moment();
        /** The documents by which each one is scored at this moment. */
        private final int[] scopes = new int[ROWS];

        Index() {
            for (int row = 0; row < ROWS; row++) {
                documents[row] = new Document();
            }
            for (int query = 0; query < QUERIES; query++) {
                queries[query] = new Query();
            }
        }

        boolean isQuery(int query) {
            return query >= 0 && query < queryCount && query < QUERIES;
        }

        /** Numbers the query that was made behind the others. */
        int finishQuery() {
            int number = queryCount;
            for (int row = 0; row < ROWS; row++) {
                countText(number, row);
            }
            queryCount = number + 1;
            return number;
        }

        int sizeWithParts(Query query) {
            int size = 1;
            for (int part = 0; part < query.partCount && part < CLAUSES; part++) {
                int number = query.parts[part];
                size += isQuery(number) ? queries[number].size : 0;
            }
            return size;
        }

        /** Counts how often each query's text is in a document that came. */
        void countTexts(int row) {
            for (int query = 0; query < queryCount && query < QUERIES; query++) {
                countText(query, row);
            }
        }

        private void countText(int query, int row) {
            if (query < 0 || query >= QUERIES || !isRow(row) || queries[query].kind != TEXT) {
                return;
            }
            int times = queries[query].oftenIn(documents[row]);
            int bit = 1 << row;
            often[query][row] = times;
            carriers[query] = times > 0 ? carriers[query] | bit : carriers[query] & ~bit;
        }

        /** Looks at a moment; scores are by its segments, or by all of it. */
        void lookAt(Moment newMoment, boolean isLocal) {
            moment = newMoment;
            matched = 0;
            for (int row = 0; row < ROWS; row++) {
                scopes[row] = isLocal ? newMoment.livingBeside(row) : newMoment.ledger.alive;
            }
        }

        int ofColour(int colour) {
            int found = 0;
            for (int row = 0; row < ROWS; row++) {
                if (has(moment.ledger.alive, row) && documents[row].colour == colour) {
                    found |= 1 << row;
                }
            }
            return found;
        }

        private int inRange(Query range) {
            int found = 0;
            for (int row = 0; row < ROWS; row++) {
                if (has(moment.ledger.alive, row) && range.isInRange(moment.ledger.prices[row])) {
                    found |= 1 << row;
                }
            }
            return found;
        }

        private int textScore(int query, int row) {
            int scope = scopes[row];
            int times = 1000 * often[query][row] * (Integer.bitCount(scope) + 1);
            int rare = per(times, Integer.bitCount(carriers[query] & scope) + 1);
            return per(rare, documents[row].lengthOf(queries[query].field) + 3);
        }

        // ---- all documents at once, a query behind its parts

        int gather(int query, Hits into) {
            int found = matchingOf(query);
            for (int row = 0; row < ROWS; row++) {
                if (has(found, row)) {
                    into.offer(row, scores[query][row]);
                }
            }
            return Integer.bitCount(found);
        }

        int matchingOf(int query) {
            if (!isQuery(query)) {
                return 0;
            }
            int needed = 1 << query;
            for (int number = query; number >= 0; number--) {
                if (has(needed, number)) {
                    needed |= partsOf(queries[number]);
                }
            }
            for (int number = 0; number <= query; number++) {
                if (has(needed & ~matched, number)) {
                    match(number, queries[number]);
                    matched |= 1 << number;
                }
            }
            return matching[query];
        }

        /** What matches a query if a set's own colours among its filters are left out. */
        int matchingWithoutOwn(int query) {
            int found = matchingOf(query);
            if (!isQuery(query) || queries[query].kind != SET) {
                return found;
            }
            return matchingSet(queries[query], true);
        }

        private int partsOf(Query query) {
            int bits = 0;
            for (int part = 0; part < query.partCount && part < CLAUSES; part++) {
                bits |= 1 << query.parts[part];
            }
            return bits;
        }

        private void match(int number, Query query) {
            for (int row = 0; row < ROWS; row++) {
                scores[number][row] = 0;
            }
            switch (query.kind) {
                case TEXT:
                    matchText(number);
                    break;
                case PRICED:
                    matching[number] = inRange(query);
                    break;
                case COLOURED:
                    matching[number] = ofColour(query.colour);
                    break;
                case BOOSTED:
                    matchBoosted(number, query.parts[0], query.factor);
                    break;
                case PARENTS:
                    matchParents(number, query.parts[0]);
                    break;
                default:
                    matching[number] = matchingSet(query, false);
                    scoreSet(number, query);
                    break;
            }
        }

        private void matchText(int number) {
            int found = carriers[number] & moment.ledger.alive;
            matching[number] = found;
            for (int row = 0; row < ROWS; row++) {
                if (has(found, row)) {
                    scores[number][row] = textScore(number, row);
                }
            }
        }

        private void matchBoosted(int number, int part, int factor) {
            if (!isQuery(part)) {
                return;
            }
            matching[number] = matching[part];
            for (int row = 0; row < ROWS; row++) {
                scores[number][row] = scores[part][row] * factor;
            }
        }

        private void matchParents(int number, int part) {
            int found = 0;
            for (int row = 0; row < ROWS && isQuery(part); row++) {
                int parent = documents[row].parent;
                if (has(matching[part], row) && isRow(parent)) {
                    int score = scores[part][row];
                    boolean isFirst = !has(found, parent);
                    scores[number][parent] = isFirst ? score : Math.max(scores[number][parent], score);
                    found |= 1 << parent;
                }
            }
            matching[number] = found;
        }

        private int matchingSet(Query set, boolean isWithoutOwn) {
            int found = moment.ledger.alive;
            for (int part = 0; part < set.partCount && part < CLAUSES; part++) {
                int clause = set.parts[part];
                if (isQuery(clause)) {
                    char kind = set.kinds[part];
                    boolean isLeftOut = isWithoutOwn && kind == FILTER && queries[clause].kind == COLOURED;
                    if ((kind == MUST || kind == FILTER) && !isLeftOut) {
                        found &= matching[clause];
                    }
                    if (kind == MUST_NOT) {
                        found &= ~matching[clause];
                    }
                }
            }
            int least = set.leastToMatch();
            for (int row = 0; row < ROWS; row++) {
                if (shouldsMatching(set, row) < least) {
                    found &= ~(1 << row);
                }
            }
            return found;
        }

        private int shouldsMatching(Query set, int row) {
            int number = 0;
            for (int part = 0; part < set.partCount && part < CLAUSES; part++) {
                int clause = set.parts[part];
                if (set.kinds[part] == SHOULD && isQuery(clause) && has(matching[clause], row)) {
                    number++;
                }
            }
            return number;
        }

        private void scoreSet(int number, Query set) {
            for (int part = 0; part < set.partCount && part < CLAUSES; part++) {
                int clause = set.parts[part];
                boolean isScored = set.kinds[part] == MUST || set.kinds[part] == SHOULD;
                for (int row = 0; row < ROWS && isScored && isQuery(clause); row++) {
                    if (has(matching[number] & matching[clause], row)) {
                        scores[number][row] += scores[clause][row];
                    }
                }
            }
        }

        // ---- each document alone, a query ahead of its parts

        int gatherAnew(int query, Hits into) {
            int found = 0;
            for (int row = 0; row < ROWS; row++) {
                long grade = gradeOf(query, row, 1);
                if (grade != NO_MATCH) {
                    into.offer(row, (int) grade);
                    found++;
                }
            }
            return found;
        }

        /** The score of a document, or NO_MATCH. */
        long gradeOf(int number, int row, int depth) {
            if (depth > GREATEST_SIZE || !isQuery(number) || !isRow(row) || !has(moment.ledger.alive, row)) {
                return NO_MATCH;
            }
            Query query = queries[number];
            switch (query.kind) {
                case TEXT:
                    return often[number][row] > 0 ? textScore(number, row) : NO_MATCH;
                case PRICED:
                    return query.isInRange(moment.ledger.prices[row]) ? 0 : NO_MATCH;
                case COLOURED:
                    return documents[row].colour == query.colour ? 0 : NO_MATCH;
                case BOOSTED:
                    return gradeOfBoosted(query, row, depth + 1);
                case PARENTS:
                    return gradeOfParent(query.parts[0], row, depth + 1);
                default:
                    return gradeOfSet(query, row, depth + 1);
            }
        }

        private long gradeOfBoosted(Query query, int row, int depth) {
            long grade = gradeOf(query.parts[0], row, depth);
            return grade == NO_MATCH ? NO_MATCH : (int) grade * query.factor;
        }

        private long gradeOfParent(int part, int parent, int depth) {
            long best = NO_MATCH;
            for (int row = 0; row < ROWS; row++) {
                if (documents[row].parent == parent) {
                    long grade = gradeOf(part, row, depth);
                    boolean isBetter = best == NO_MATCH || grade > best;
                    best = grade != NO_MATCH && isBetter ? grade : best;
                }
            }
            return best;
        }

        private long gradeOfSet(Query set, int row, int depth) {
            int sum = 0;
            int shoulds = 0;
            for (int part = 0; part < set.partCount && part < CLAUSES; part++) {
                char kind = set.kinds[part];
                long grade = gradeOf(set.parts[part], row, depth);
                boolean isMatch = grade != NO_MATCH;
                if ((kind == MUST || kind == FILTER) && !isMatch || kind == MUST_NOT && isMatch) {
                    return NO_MATCH;
                }
                if (isMatch && (kind == MUST || kind == SHOULD)) {
                    sum += (int) grade;
                }
                if (isMatch && kind == SHOULD) {
                    shoulds++;
                }
            }
            return shoulds >= set.leastToMatch() ? sum : NO_MATCH;
        }
    }

    /** The best hits of a search, the best one first. */
    private static final class Hits {
        final int[] numbers = new int[DOCUMENTS];
        final int[] scores = new int[DOCUMENTS];
        int size = 0;
        private int most = 0;

        void start(int newMost) {
            size = 0;
            most = Math.min(newMost, DOCUMENTS);
        }

        /** Keeps a hit in its place, if it is good enough; the last one may fall out for it. */
        void offer(int number, int score) {
            int place = 0;
            for (int hit = 0; hit < size && hit < DOCUMENTS; hit++) {
                if (scores[hit] > score || scores[hit] == score && numbers[hit] < number) {
                    place = hit + 1;
                }
            }
            if (place >= most) {
                return;
            }
            int last = Math.min(size, most - 1);
            for (int hit = last; hit > place; hit--) {
                numbers[hit] = numbers[hit - 1];
                scores[hit] = scores[hit - 1];
            }
            numbers[place] = number;
            scores[place] = score;
            size = last + 1;
        }

        boolean isLike(Hits other) {
            if (size != other.size) {
                return false;
            }
            for (int hit = 0; hit < size && hit < DOCUMENTS; hit++) {
                if (numbers[hit] != other.numbers[hit] || scores[hit] != other.scores[hit]) {
                    return false;
                }
            }
            return true;
        }
    }
}
