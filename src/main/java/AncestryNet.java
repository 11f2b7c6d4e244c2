import java.util.NoSuchElementException;

/**
 * A net of commits, each with a time, a key and parents that were there before it.
 *
 * <p>A parent's number is always below its child's. One sweep over the numbers, from the highest
 * down, therefore meets each commit before its parents, and finds all that is reachable.
 */
public final class AncestryNet {
    private static final int MOST_COMMITS = 2000;
    private static final int MOST_PARENTS = 4;
    private static final int HOLDERS = 2;
    private static final int NO_PARENT = -1;
    private static final int HOW_MANY = -1;

    // The marks that a sweep hands down: one for each of two sides (two commits, or two holders).
    private static final int FIRST_SIDE = 1;
    private static final int SECOND_SIDE = 2;
    private static final int BOTH_SIDES = 3;
    private static final int BELOW_COMMON = 4;

    private int commits;
    private final int[] times = new int[MOST_COMMITS];
    private final int[] keys = new int[MOST_COMMITS];
    private final int[] generations = new int[MOST_COMMITS];
    private final int[] parentCounts = new int[MOST_COMMITS];
    private final int[] parents = new int[MOST_COMMITS * MOST_PARENTS];
    private final boolean[] isParent = new boolean[MOST_COMMITS];
    private final int[] tips = new int[MOST_COMMITS];

    // Rows for the work of a single call, kept so that no call makes new ones.
    private final int[] marks = new int[MOST_COMMITS];
    private final int[] untoldLinks = new int[MOST_COMMITS];
    private final Queue queue = new Queue();

    public AncestryNet() {
    }

    public int add(int time, int key, int a, int b, int c)
            throws IllegalArgumentException, IllegalStateException {
        checkParentOrNone(a);
        checkParentOrNone(b);
        checkParentOrNone(c);
        if (commits >= MOST_COMMITS) {
            throw new IllegalStateException("no room for another commit");
        }
        int number = commits;
        commits++;
        times[number] = time;
        keys[number] = key;
        generations[number] = 1;
        linkUnlessNone(number, a);
        linkUnlessNone(number, b);
        linkUnlessNone(number, c);
        return number;
    }

    public int under(int c, int p) throws IllegalArgumentException, IllegalStateException {
        checkCommit(c);
        if (p < 0 || p >= c) {
            throw new IllegalArgumentException("a parent is below its child");
        }
        // What is itself a parent stays as it is: so no generation above it can go stale.
        if (isParent[c] || parentCounts[c] >= MOST_PARENTS) {
            throw new IllegalStateException("the commit takes no more parents");
        }
        link(c, p);
        return parentCounts[c];
    }

    public void tip(int h, int c, boolean so) throws IllegalArgumentException {
        checkHolder(h);
        checkCommit(c);
        tips[c] = so ? tips[c] | sideOf(h) : tips[c] & ~sideOf(h);
    }

    public boolean reaches(int b, int a) throws IllegalArgumentException {
        checkCommit(b);
        checkCommit(a);
        markReachable(b);
        return marks[a] != 0;
    }

    public int base(int a, int b, int i) throws IllegalArgumentException, NoSuchElementException {
        checkCommit(a);
        checkCommit(b);
        clearMarks();
        marks[a] |= FIRST_SIDE;
        marks[b] |= SECOND_SIDE;
        spreadMarks();
        queue.clear();
        for (int commit = 0; commit < commits; commit++) {
            if (marks[commit] == BOTH_SIDES) {
                queueInTheOrder(commit);
            }
        }
        return queuedAt(i);
    }

    public int log(int c, int i) throws IllegalArgumentException, NoSuchElementException {
        checkCommit(c);
        markReachable(c);
        int length = markedCommits();
        if (i == HOW_MANY) {
            return length;
        }
        checkPlace(i, length);
        return toldAt(c, i);
    }

    public int back(int c, int n) throws IllegalArgumentException, NoSuchElementException {
        checkCommit(c);
        if (n < 0) {
            throw new IllegalArgumentException("no way back is that short");
        }
        int at = c;
        for (int step = 0; step < n; step++) {
            if (parentCounts[at] == 0) {
                throw new NoSuchElementException("the line of first parents ends before");
            }
            at = parentOf(at, 0);
        }
        return at;
    }

    public int sent(int h, int i) throws IllegalArgumentException, NoSuchElementException {
        checkHolder(h);
        markHeld();
        queue.clear();
        for (int commit = 0; commit < commits; commit++) {
            if (marks[commit] == sideOf(h)) {
                queue.put(generations[commit], keys[commit], commit);
            }
        }
        return queuedAt(i);
    }

    public int told(int c, int what) throws IllegalArgumentException {
        checkCommit(c);
        switch (what) {
            case 0:
                return times[c];
            case 1:
                return keys[c];
            case 2:
                return parentCounts[c];
            case 3:
                return generations[c];
            case 4:
                return Integer.bitCount(tips[c]);
            default:
                throw new IllegalArgumentException("nothing of that kind is told");
        }
    }

    public int count(int what) {
        switch (what) {
            case 0:
                return commits;
            case 1:
                return tipsOf(0);
            case 2:
                return tipsOf(1);
            case 3:
                return greatestGeneration();
            case 4:
                return childlessCommits();
            case 5:
                return commonCommits();
            case 6:
                return misplacedCommits();
            default:
                return -1;
        }
    }

    private void checkCommit(int c) {
        if (c < 0 || c >= commits) {
            throw new IllegalArgumentException("no such commit");
        }
    }

    private void checkParentOrNone(int p) {
        if (p != NO_PARENT) {
            checkCommit(p);
        }
    }

    private static void checkHolder(int h) {
        if (h < 0 || h >= HOLDERS) {
            throw new IllegalArgumentException("no such holder");
        }
    }

    private static void checkPlace(int i, int length) {
        if (i < 0 || i >= length) {
            throw new NoSuchElementException("no such place");
        }
    }

    private static int sideOf(int holder) {
        return holder == 0 ? FIRST_SIDE : SECOND_SIDE;
    }

    private int parentOf(int c, int slot) {
        return parents[c * MOST_PARENTS + slot];
    }

    private void linkUnlessNone(int c, int p) {
        if (p != NO_PARENT) {
            link(c, p);
        }
    }

    private void link(int c, int p) {
        parents[c * MOST_PARENTS + parentCounts[c]] = p;
        parentCounts[c]++;
        isParent[p] = true;
        generations[c] = Math.max(generations[c], generations[p] + 1);
    }

    private void clearMarks() {
        for (int commit = 0; commit < commits; commit++) {
            marks[commit] = 0;
        }
    }

    private void markReachable(int from) {
        clearMarks();
        marks[from] = FIRST_SIDE;
        spreadMarks();
    }

    private void markHeld() {
        for (int commit = 0; commit < commits; commit++) {
            marks[commit] = tips[commit];
        }
        spreadMarks();
    }

    private void spreadMarks() {
        for (int commit = commits - 1; commit >= 0; commit--) {
            int handedDown = isCommon(commit) ? marks[commit] | BELOW_COMMON : marks[commit];
            for (int slot = 0; slot < parentCounts[commit]; slot++) {
                marks[parentOf(commit, slot)] |= handedDown;
            }
        }
    }

    private boolean isCommon(int commit) {
        return (marks[commit] & BOTH_SIDES) == BOTH_SIDES;
    }

    private int markedCommits() {
        int marked = 0;
        for (int commit = 0; commit < commits; commit++) {
            if (marks[commit] != 0) {
                marked++;
            }
        }
        return marked;
    }

    private void queueInTheOrder(int commit) {
        // The complement turns the order of all ints round; a minus would fail for the least one.
        queue.put(~times[commit], keys[commit], commit);
    }

    private int queuedAt(int i) {
        if (i == HOW_MANY) {
            return queue.size();
        }
        checkPlace(i, queue.size());
        for (int place = 0; place < i; place++) {
            queue.take();
        }
        return queue.take();
    }

    // Of those that aren't told yet the one with the highest number has no untold child, so the
    // queue isn't empty before all are told. The loop looks at it all the same.
    private int toldAt(int c, int i) {
        countUntoldLinks();
        queue.clear();
        queueInTheOrder(c);
        for (int place = 0; place < i && queue.size() > 0; place++) {
            tellNext();
        }
        return queue.take();
    }

    // Each place among a child's parents is a link of its own: a parent that is there twice has two.
    private void countUntoldLinks() {
        for (int commit = 0; commit < commits; commit++) {
            untoldLinks[commit] = 0;
        }
        for (int commit = 0; commit < commits; commit++) {
            int links = marks[commit] == 0 ? 0 : parentCounts[commit];
            for (int slot = 0; slot < links; slot++) {
                untoldLinks[parentOf(commit, slot)]++;
            }
        }
    }

    private void tellNext() {
        int commit = queue.take();
        for (int slot = 0; slot < parentCounts[commit]; slot++) {
            int parent = parentOf(commit, slot);
            untoldLinks[parent]--;
            if (untoldLinks[parent] == 0) {
                queueInTheOrder(parent);
            }
        }
    }

    private int tipsOf(int holder) {
        int found = 0;
        for (int commit = 0; commit < commits; commit++) {
            if ((tips[commit] & sideOf(holder)) != 0) {
                found++;
            }
        }
        return found;
    }

    private int greatestGeneration() {
        int greatest = 0;
        for (int commit = 0; commit < commits; commit++) {
            greatest = Math.max(greatest, generations[commit]);
        }
        return greatest;
    }

    private int childlessCommits() {
        int found = 0;
        for (int commit = 0; commit < commits; commit++) {
            if (!isParent[commit]) {
                found++;
            }
        }
        return found;
    }

    private int commonCommits() {
        markHeld();
        int found = 0;
        for (int commit = 0; commit < commits; commit++) {
            if (isCommon(commit)) {
                found++;
            }
        }
        return found;
    }

    private int misplacedCommits() {
        int found = 0;
        for (int commit = 0; commit < commits; commit++) {
            if (hasParentNotBelow(commit)) {
                found++;
            }
        }
        return found;
    }

    private boolean hasParentNotBelow(int commit) {
        for (int slot = 0; slot < parentCounts[commit]; slot++) {
            if (parentOf(commit, slot) >= commit) {
                return true;
            }
        }
        return false;
    }

    /**
     * A heap of commits: the least rank is taken first, of equal ones the lesser key, of equal
     * ones the lesser number. No commit is put into it twice and none is taken that wasn't put, so
     * it is never too full or too empty; it looks all the same, so that no index depends on callers.
     */
    private static final class Queue {
        private static final int NOTHING = -1;

        private final int[] ranks = new int[MOST_COMMITS];
        private final int[] keys = new int[MOST_COMMITS];
        private final int[] numbers = new int[MOST_COMMITS];
        private int size;

        void clear() {
            size = 0;
        }

        int size() {
            return size;
        }

        void put(int rank, int key, int number) {
            if (size >= MOST_COMMITS) {
                return;
            }
            ranks[size] = rank;
            keys[size] = key;
            numbers[size] = number;
            size++;
            rise();
        }

        int take() {
            if (size <= 0) {
                return NOTHING;
            }
            int first = numbers[0];
            size--;
            swap(0, size);
            sink();
            return first;
        }

        private void rise() {
            for (int place = size - 1; place > 0; place = (place - 1) / 2) {
                int above = (place - 1) / 2;
                if (comesBefore(above, place)) {
                    return;
                }
                swap(above, place);
            }
        }

        private void sink() {
            int place = 0;
            for (int child = 1; child < size; child = 2 * place + 1) {
                if (child + 1 < size && comesBefore(child + 1, child)) {
                    child++;
                }
                if (comesBefore(place, child)) {
                    return;
                }
                swap(place, child);
                place = child;
            }
        }

        private boolean comesBefore(int x, int y) {
            if (ranks[x] != ranks[y]) {
                return ranks[x] < ranks[y];
            }
            if (keys[x] != keys[y]) {
                return keys[x] < keys[y];
            }
            return numbers[x] < numbers[y];
        }

        private void swap(int x, int y) {
            int rank = ranks[x];
            ranks[x] = ranks[y];
            ranks[y] = rank;
            int key = keys[x];
            keys[x] = keys[y];
            keys[y] = key;
            int number = numbers[x];
            numbers[x] = numbers[y];
            numbers[y] = number;
        }
    }
}
