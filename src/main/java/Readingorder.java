/** Pages whose boxes are read aloud in an order that cuts between them and ties by hand make. */
public final class Readingorder {

    public static final int NONE = -1;
    public static final int TEXT = 0, ITEM = 1, FIGURE = 2, NOTE = 3, HEAD_1 = 4, HEAD_2 = 5, HEAD_3 = 6;

    private static final int PAGES = 5, PAGE_WIDTH = 60, PAGE_HEIGHT = 80;
    private static final int MOST_BOXES = 24, MOST_APPROVALS = 20, PERSONS = 6;
    private static final int WIDEST_GAP = 20;
    private static final int FAULT_HEAD = 1, FAULT_ITEM = 2, FAULT_NOTE = 4, FAULT_OVERLAP = 8, FAULT_GAP = 16;

    private final Box[] made = new Box[MOST_BOXES];
    private int madeCount = 0;
    private final Reading[] readings = new Reading[PAGES];
    /** A reading that is looked at and then thrown away, so that no call makes one. */
    private final Reading trial = new Reading();
    private final Pile aside = new Pile();
    private final Approval[] given = new Approval[MOST_APPROVALS];
    private int givenCount = 0;

    public Readingorder() {
        for (int page = 0; page < readings.length; page++) {
            readings[page] = new Reading();
        }
    }

    // ---- boxes

    public int box(int page, int left, int top, int width, int height, int kind)
            throws IndexOutOfBoundsException, IllegalArgumentException, IllegalStateException {
        readingOf(page);
        if (kind < TEXT || kind > HEAD_3) {
            throw new IllegalArgumentException("there is no such kind");
        }
        checkWithinPage(left, top, width, height);
        int number = madeCount;
        if (number < 0 || number >= made.length) {
            throw new IllegalStateException("there are no more numbers for boxes");
        }
        made[number] = new Box(number, page, left, top, width, height, kind);
        madeCount = number + 1;
        readAgain(page);
        return number;
    }

    public int move(int box, int left, int top) throws IndexOutOfBoundsException, IllegalArgumentException {
        Box moved = presentBox(box);
        checkWithinPage(left, top, moved.width, moved.height);
        moved.left = left;
        moved.top = top;
        return readAgain(moved.page);
    }

    public int resize(int box, int width, int height) throws IndexOutOfBoundsException, IllegalArgumentException {
        Box resized = presentBox(box);
        checkWithinPage(resized.left, resized.top, width, height);
        resized.width = width;
        resized.height = height;
        return readAgain(resized.page);
    }

    public int remove(int box) throws IndexOutOfBoundsException {
        Box removed = presentBox(box);
        removed.loosenFromLeader();
        removed.loosenFromFollower();
        removed.gone = true;
        return readAgain(removed.page);
    }

    public int tie(int box, int behind)
            throws IndexOutOfBoundsException, IllegalArgumentException, IllegalStateException {
        Box leader = presentBox(box);
        Box follower = presentBox(behind);
        if (leader.page != follower.page || leader == follower) {
            throw new IllegalArgumentException("these two can't be tied");
        }
        if (leader.follower != null || follower.leader != null || leader.comesBehind(follower)) {
            throw new IllegalStateException("there is a tie already that rules this one out");
        }
        leader.follower = follower;
        follower.leader = leader;
        return readAgain(leader.page);
    }

    public int untie(int box) throws IndexOutOfBoundsException, IllegalStateException {
        Box follower = presentBox(box);
        if (follower.leader == null) {
            throw new IllegalStateException("the box follows none");
        }
        follower.loosenFromLeader();
        return readAgain(follower.page);
    }

    // ---- the order

    public int order(int page, int place) throws IndexOutOfBoundsException {
        Reading reading = readingOf(page);
        checkPlace(place);
        return reading.at(place);
    }

    public int orderAnew(int page, int place) throws IndexOutOfBoundsException {
        readingOf(page);
        checkPlace(place);
        readWithSetsAside(page, trial);
        return trial.at(place);
    }

    public int placeOf(int box) throws IndexOutOfBoundsException {
        Box found = presentBox(box);
        return readingOf(found.page).placeFor(found.number);
    }

    public int boxes(int page) throws IndexOutOfBoundsException {
        return readingOf(page).length;
    }

    public int about(int box, int what) throws IndexOutOfBoundsException, IllegalArgumentException {
        Box found = madeBox(box);
        if (found == null) {
            throw new IndexOutOfBoundsException("there is no such box");
        }
        switch (what) {
            case 0: return found.page;
            case 1: return found.left;
            case 2: return found.top;
            case 3: return found.width;
            case 4: return found.height;
            case 5: return found.kind;
            case 6: return numberOf(found.leader);
            case 7: return numberOf(found.follower);
            case 8: return found.gone ? 1 : 0;
            default: throw new IllegalArgumentException("nothing is told by that number");
        }
    }

    public int way(int page) throws IndexOutOfBoundsException {
        Reading reading = readingOf(page);
        int far = 0;
        for (int place = 1; place < reading.length; place++) {
            Box from = madeBox(reading.at(place - 1));
            Box to = madeBox(reading.at(place));
            if (from != null && to != null) {
                far += Math.abs(to.middleAcross() - from.middleAcross());
                far += Math.abs(to.middleDown() - from.middleDown());
            }
        }
        return far;
    }

    public int faults(int box) throws IndexOutOfBoundsException {
        Box found = presentBox(box);
        Reading reading = readingOf(found.page);
        return faultsAt(reading, reading.placeFor(found.number));
    }

    public int faulty(int page) throws IndexOutOfBoundsException {
        Reading reading = readingOf(page);
        int count = 0;
        for (int place = 0; place < reading.length; place++) {
            if (faultsAt(reading, place) != 0) {
                count++;
            }
        }
        return count;
    }

    // ---- approvals

    public int approve(int person, int page) throws IndexOutOfBoundsException, IllegalStateException {
        if (person < 0 || person >= PERSONS) {
            throw new IndexOutOfBoundsException("there is no such person");
        }
        Reading reading = readingOf(page);
        int number = givenCount;
        if (reading.length == 0 || number < 0 || number >= given.length) {
            throw new IllegalStateException("there is nothing to approve, or no number for an approval");
        }
        given[number] = new Approval(person, page);
        givenCount = number + 1;
        return number;
    }

    public boolean stands(int approval) throws IndexOutOfBoundsException {
        Approval found = approval >= 0 && approval < given.length ? given[approval] : null;
        if (found == null) {
            throw new IndexOutOfBoundsException("there is no such approval");
        }
        return found.holds;
    }

    public int approvers(int page) throws IndexOutOfBoundsException {
        readingOf(page);
        int persons = 0;
        for (int number = 0; number < given.length; number++) {
            Approval approval = given[number];
            if (approval != null && approval.holdsFor(page)) {
                persons |= 1 << approval.person;
            }
        }
        return persons;
    }

    public int breaks(int box, int left, int top) throws IndexOutOfBoundsException, IllegalArgumentException {
        Box tried = presentBox(box);
        checkWithinPage(left, top, tried.width, tried.height);
        int oldLeft = tried.left;
        int oldTop = tried.top;
        tried.left = left;
        tried.top = top;
        readByCuts(tried.page, trial);
        tried.left = oldLeft;
        tried.top = oldTop;
        return trial.isSameAs(readingOf(tried.page)) ? 0 : countHolding(tried.page);
    }

    // What a call asks for, or the exception that is due.

    private Reading readingOf(int page) {
        Reading reading = page >= 0 && page < readings.length ? readings[page] : null;
        if (reading == null) {
            throw new IndexOutOfBoundsException("there is no such page");
        }
        return reading;
    }

    private Box presentBox(int number) {
        Box found = madeBox(number);
        if (found == null || found.gone) {
            throw new IndexOutOfBoundsException("there is no such box, or it is gone");
        }
        return found;
    }

    private static void checkPlace(int place) {
        if (place < 0) {
            throw new IndexOutOfBoundsException("there is no such place");
        }
    }

    /** Subtracts rather than adds, so that no great number wraps round into the page. */
    private static void checkWithinPage(int left, int top, int width, int height) {
        if (left < 0 || top < 0 || width < 1 || height < 1
                || left > PAGE_WIDTH || width > PAGE_WIDTH - left
                || top > PAGE_HEIGHT || height > PAGE_HEIGHT - top) {
            throw new IllegalArgumentException("the box is not within its page");
        }
    }

    /** The box of a number, also if it is gone; null if there never was one. */
    private Box madeBox(int number) {
        return number >= 0 && number < made.length ? made[number] : null;
    }

    private static int numberOf(Box box) {
        return box == null ? NONE : box.number;
    }

    // The order. A set of boxes is a number with the bit 1 << n for the box n.

    /** Puts a page in order after a change; answers how many approvals fall by that. */
    private int readAgain(int page) {
        Reading reading = readingOf(page);
        readByCuts(page, trial);
        if (trial.isSameAs(reading)) {
            return 0;
        }
        reading.become(trial);
        return letFall(page);
    }

    private void readByCuts(int page, Reading into) {
        into.length = 0;
        readSet(boxesThatFollowNone(page), into, 0);
    }

    /** Each cut leaves fewer boxes on either side, so that the depth stays below the number of boxes. */
    private void readSet(int set, Reading into, int depth) {
        int first = depth < MOST_BOXES ? cutOff(set) : 0;
        if (first == 0) {
            readUncut(set, into);
        } else {
            readParts(first, set & ~first, into, depth + 1);
        }
    }

    private void readParts(int first, int then, Reading into, int depth) {
        readSet(first, into, depth);
        readSet(then, into, depth);
    }

    private void readWithSetsAside(int page, Reading into) {
        into.length = 0;
        aside.height = 0;
        aside.put(boxesThatFollowNone(page));
        // Of n boxes there are at most n sets that are not cut, and n - 1 that are.
        for (int step = 0; step < 2 * MOST_BOXES && aside.height > 0; step++) {
            int set = aside.take();
            int first = cutOff(set);
            if (first == 0) {
                readUncut(set, into);
            } else {
                aside.put(set & ~first);
                aside.put(first);
            }
        }
    }

    private int boxesThatFollowNone(int page) {
        int set = 0;
        for (int number = 0; number < madeCount; number++) {
            Box box = madeBox(number);
            if (box != null && !box.gone && box.page == page && box.leader == null) {
                set |= 1 << number;
            }
        }
        return set;
    }

    /** The part of a set that its cut lets be read first; 0 if it can be cut in neither way. */
    private int cutOff(int set) {
        int upper = endedBy(leastCut(set, true), set, true);
        if (upper != set) {
            return upper;
        }
        int left = endedBy(leastCut(set, false), set, false);
        return left != set ? left : 0;
    }

    /**
     * The least cut that has a box ahead of it and goes through none. It can't lie nearer than the least end
     * of a box; from there it is put further as long as it goes through one. All boxes may end by it.
     */
    private int leastCut(int set, boolean across) {
        int cut = across ? PAGE_HEIGHT : PAGE_WIDTH;
        for (int number = 0; number < madeCount; number++) {
            Box box = boxOfSet(set, number);
            cut = box != null ? Math.min(cut, box.end(across)) : cut;
        }
        boolean moved = true;
        for (int pass = 0; pass < MOST_BOXES && moved; pass++) {
            moved = false;
            for (int number = 0; number < madeCount; number++) {
                Box box = boxOfSet(set, number);
                if (box != null && box.begin(across) < cut && box.end(across) > cut) {
                    cut = box.end(across);
                    moved = true;
                }
            }
        }
        return cut;
    }

    private int endedBy(int cut, int set, boolean across) {
        int ended = 0;
        for (int number = 0; number < madeCount; number++) {
            Box box = boxOfSet(set, number);
            if (box != null && box.end(across) <= cut) {
                ended |= 1 << number;
            }
        }
        return ended;
    }

    private void readUncut(int set, Reading into) {
        int rest = set;
        for (int count = 0; count < MOST_BOXES && rest != 0; count++) {
            Box next = firstByEdges(rest);
            if (next == null) {
                return;
            }
            rest &= ~(1 << next.number);
            for (Box box = next; box != null; box = box.follower) {
                into.add(box.number);
            }
        }
    }

    private Box firstByEdges(int set) {
        Box first = null;
        for (int number = 0; number < madeCount; number++) {
            Box box = boxOfSet(set, number);
            if (box != null && (first == null || box.isAheadByEdges(first))) {
                first = box;
            }
        }
        return first;
    }

    private Box boxOfSet(int set, int number) {
        boolean within = number >= 0 && number < made.length && (set >> number & 1) != 0;
        return within ? made[number] : null;
    }

    // The checks.

    private int faultsAt(Reading reading, int place) {
        Box box = madeBox(reading.at(place));
        if (box == null) {
            return 0;
        }
        Box ahead = madeBox(reading.at(place - 1));
        Box behind = madeBox(reading.at(place + 1));
        int faults = 0;
        if (box.isHead() && box.level() > levelAhead(reading, place) + 1) {
            faults |= FAULT_HEAD;
        }
        if (box.kind == ITEM && !isOfKind(ahead, ITEM) && !isOfKind(behind, ITEM)) {
            faults |= FAULT_ITEM;
        }
        if (box.kind == NOTE && !isOfKind(ahead, FIGURE)) {
            faults |= FAULT_NOTE;
        }
        if (overlapsAny(box, reading)) {
            faults |= FAULT_OVERLAP;
        }
        if (ahead != null && box.top > ahead.bottom() + WIDEST_GAP) {
            faults |= FAULT_GAP;
        }
        return faults;
    }

    /** The level of the head that was read last; 0 ahead of the first one, so that it must have the level 1. */
    private int levelAhead(Reading reading, int place) {
        for (int earlier = place - 1; earlier >= 0; earlier--) {
            Box box = madeBox(reading.at(earlier));
            if (box != null && box.isHead()) {
                return box.level();
            }
        }
        return 0;
    }

    private static boolean isOfKind(Box box, int kind) {
        return box != null && box.kind == kind;
    }

    private boolean overlapsAny(Box box, Reading reading) {
        for (int place = 0; place < reading.length; place++) {
            Box other = madeBox(reading.at(place));
            if (other != null && other != box && box.overlaps(other)) {
                return true;
            }
        }
        return false;
    }

    // The approvals.

    private int letFall(int page) {
        int fallen = 0;
        for (int number = 0; number < given.length; number++) {
            Approval approval = given[number];
            if (approval != null && approval.holdsFor(page)) {
                approval.holds = false;
                fallen++;
            }
        }
        return fallen;
    }

    private int countHolding(int page) {
        int count = 0;
        for (int number = 0; number < given.length; number++) {
            Approval approval = given[number];
            if (approval != null && approval.holdsFor(page)) {
                count++;
            }
        }
        return count;
    }

    private static final class Box {
        final int number;
        final int page;
        final int kind;
        int left;
        int top;
        int width;
        int height;
        boolean gone = false;
        /** The box that it follows, and the one that it leads; null for none. */
        Box leader = null;
        Box follower = null;

        Box(int number, int page, int left, int top, int width, int height, int kind) {
            this.number = number;
            this.page = page;
            this.left = left;
            this.top = top;
            this.width = width;
            this.height = height;
            this.kind = kind;
        }

        int bottom() {
            return top + height;
        }

        int begin(boolean across) {
            return across ? top : left;
        }

        int end(boolean across) {
            return across ? top + height : left + width;
        }

        int middleAcross() {
            return left + width / 2;
        }

        int middleDown() {
            return top + height / 2;
        }

        boolean isHead() {
            return kind >= HEAD_1;
        }

        int level() {
            return kind - HEAD_1 + 1;
        }

        boolean overlaps(Box other) {
            return left < other.left + other.width && other.left < left + width
                    && top < other.bottom() && other.top < bottom();
        }

        boolean isAheadByEdges(Box other) {
            if (top != other.top) {
                return top < other.top;
            }
            if (left != other.left) {
                return left < other.left;
            }
            return number < other.number;
        }

        boolean comesBehind(Box other) {
            for (Box ahead = leader; ahead != null; ahead = ahead.leader) {
                if (ahead == other) {
                    return true;
                }
            }
            return false;
        }

        void loosenFromLeader() {
            if (leader != null) {
                leader.follower = null;
                leader = null;
            }
        }

        void loosenFromFollower() {
            if (follower != null) {
                follower.leader = null;
                follower = null;
            }
        }
    }

    /** The numbers of a page's boxes in the order in which they are read. */
    private static final class Reading {
        final int[] numbers = new int[MOST_BOXES];
        int length = 0;

        void add(int number) {
            if (length >= 0 && length < numbers.length) {
                numbers[length] = number;
                length++;
            }
        }

        int at(int place) {
            return place >= 0 && place < length && place < numbers.length ? numbers[place] : NONE;
        }

        int placeFor(int number) {
            for (int place = 0; place < length; place++) {
                if (at(place) == number) {
                    return place;
                }
            }
            return NONE;
        }

        boolean isSameAs(Reading other) {
            if (length != other.length) {
                return false;
            }
            for (int place = 0; place < length; place++) {
                if (at(place) != other.at(place)) {
                    return false;
                }
            }
            return true;
        }

        void become(Reading other) {
            length = 0;
            for (int place = 0; place < other.length; place++) {
                add(other.at(place));
            }
        }
    }

    /** Sets that are still to be cut, one upon the other. No two of them share a box, so that all find room. */
    private static final class Pile {
        final int[] sets = new int[MOST_BOXES];
        int height = 0;

        void put(int set) {
            if (height >= 0 && height < sets.length) {
                sets[height] = set;
                height++;
            }
        }

        int take() {
            int top = height - 1;
            if (top < 0 || top >= sets.length) {
                return 0;
            }
            height = top;
            return sets[top];
        }
    }

    private static final class Approval {
        final int person;
        final int page;
        boolean holds = true;

        Approval(int person, int page) {
            this.person = person;
            this.page = page;
        }

        boolean holdsFor(int page) {
            return holds && this.page == page;
        }
    }
}
