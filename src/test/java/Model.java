import java.util.ArrayList;
import java.util.List;

/** The document word by word, with lists that are made anew and heights that are tried one by one. */
final class Model {

    private static final class Sheet {
        int page, left, top, width, height, kind;
        boolean gone;
    }

    private static final class Vote {
        int person, page;
        boolean up = true;
        List<Integer> seen;
    }

    private final List<Sheet> all = new ArrayList<>();
    /** Pairs of the one that leads and the one that follows. */
    private final List<int[]> ties = new ArrayList<>();
    private final List<Vote> votes = new ArrayList<>();

    private static void needIndex(boolean right) {
        if (!right) {
            throw new IndexOutOfBoundsException();
        }
    }

    private static void needArgument(boolean right) {
        if (!right) {
            throw new IllegalArgumentException();
        }
    }

    private static void needState(boolean right) {
        if (!right) {
            throw new IllegalStateException();
        }
    }

    private static boolean isPage(int page) {
        return 0 <= page && page <= 4;
    }

    private boolean isHere(int box) {
        return 0 <= box && box < all.size() && !all.get(box).gone;
    }

    private static boolean isWithin(long left, long top, long width, long height) {
        return left >= 0 && top >= 0 && width >= 1 && height >= 1 && left + width <= 60 && top + height <= 80;
    }

    int box(int page, int left, int top, int width, int height, int kind) {
        needIndex(isPage(page));
        needArgument(0 <= kind && kind <= 6 && isWithin(left, top, width, height));
        needState(all.size() < 24);
        Sheet sheet = new Sheet();
        sheet.page = page;
        sheet.left = left;
        sheet.top = top;
        sheet.width = width;
        sheet.height = height;
        sheet.kind = kind;
        all.add(sheet);
        fall();
        return all.size() - 1;
    }

    int move(int box, int left, int top) {
        needIndex(isHere(box));
        Sheet sheet = all.get(box);
        needArgument(isWithin(left, top, sheet.width, sheet.height));
        sheet.left = left;
        sheet.top = top;
        return fall();
    }

    int resize(int box, int width, int height) {
        needIndex(isHere(box));
        Sheet sheet = all.get(box);
        needArgument(isWithin(sheet.left, sheet.top, width, height));
        sheet.width = width;
        sheet.height = height;
        return fall();
    }

    int remove(int box) {
        needIndex(isHere(box));
        all.get(box).gone = true;
        ties.removeIf(tie -> tie[0] == box || tie[1] == box);
        return fall();
    }

    int tie(int box, int behind) {
        needIndex(isHere(box) && isHere(behind));
        needArgument(box != behind && all.get(box).page == all.get(behind).page);
        needState(led(box) == -1 && leading(behind) == -1);
        for (int b = behind; b != -1; b = led(b)) {
            needState(b != box);
        }
        ties.add(new int[] {box, behind});
        return fall();
    }

    int untie(int box) {
        needIndex(isHere(box));
        needState(leading(box) != -1);
        ties.removeIf(tie -> tie[1] == box);
        return fall();
    }

    int order(int page, int place) {
        needIndex(isPage(page) && place >= 0);
        List<Integer> reading = reading(page);
        return place < reading.size() ? reading.get(place) : -1;
    }

    int placeOf(int box) {
        needIndex(isHere(box));
        return reading(all.get(box).page).indexOf(box);
    }

    int boxes(int page) {
        needIndex(isPage(page));
        int count = 0;
        for (Sheet sheet : all) {
            count += sheet.page == page && !sheet.gone ? 1 : 0;
        }
        return count;
    }

    int about(int box, int what) {
        needIndex(0 <= box && box < all.size());
        needArgument(0 <= what && what <= 8);
        Sheet s = all.get(box);
        int[] told = {s.page, s.left, s.top, s.width, s.height, s.kind, leading(box), led(box), s.gone ? 1 : 0};
        return told[what];
    }

    int way(int page) {
        needIndex(isPage(page));
        List<Integer> reading = reading(page);
        int far = 0;
        for (int k = 1; k < reading.size(); k++) {
            Sheet a = all.get(reading.get(k - 1));
            Sheet b = all.get(reading.get(k));
            far += Math.abs((a.left + a.width / 2) - (b.left + b.width / 2));
            far += Math.abs((a.top + a.height / 2) - (b.top + b.height / 2));
        }
        return far;
    }

    int faults(int box) {
        needIndex(isHere(box));
        List<Integer> reading = reading(all.get(box).page);
        int place = reading.indexOf(box);
        Sheet s = all.get(box);
        Sheet ahead = place == 0 ? null : all.get(reading.get(place - 1));
        Sheet behind = place == reading.size() - 1 ? null : all.get(reading.get(place + 1));
        int bits = 0;
        if (s.kind >= 4) {
            int last = 0;
            for (int k = 0; k < place; k++) {
                int kind = all.get(reading.get(k)).kind;
                last = kind >= 4 ? kind - 3 : last;
            }
            bits += s.kind - 3 - last > 1 ? 1 : 0;
        }
        boolean itemBeside = ahead != null && ahead.kind == 1 || behind != null && behind.kind == 1;
        bits += s.kind == 1 && !itemBeside ? 2 : 0;
        bits += s.kind == 3 && (ahead == null || ahead.kind != 2) ? 4 : 0;
        bits += hasPlaceInCommon(box, reading) ? 8 : 0;
        bits += ahead != null && s.top - (ahead.top + ahead.height) > 20 ? 16 : 0;
        return bits;
    }

    /** Goes over every place of the box, one by one. */
    private boolean hasPlaceInCommon(int box, List<Integer> reading) {
        Sheet s = all.get(box);
        for (int other : reading) {
            Sheet o = all.get(other);
            for (int x = s.left; other != box && x < s.left + s.width; x++) {
                for (int y = s.top; y < s.top + s.height; y++) {
                    if (o.left <= x && x < o.left + o.width && o.top <= y && y < o.top + o.height) {
                        return true;
                    }
                }
            }
        }
        return false;
    }

    int faulty(int page) {
        needIndex(isPage(page));
        int count = 0;
        for (int box : reading(page)) {
            count += faults(box) != 0 ? 1 : 0;
        }
        return count;
    }

    int approve(int person, int page) {
        needIndex(0 <= person && person <= 5 && isPage(page));
        needState(boxes(page) > 0 && votes.size() < 20);
        Vote vote = new Vote();
        vote.person = person;
        vote.page = page;
        vote.seen = reading(page);
        votes.add(vote);
        return votes.size() - 1;
    }

    int stands(int approval) {
        needIndex(0 <= approval && approval < votes.size());
        return votes.get(approval).up ? 1 : 0;
    }

    int approvers(int page) {
        needIndex(isPage(page));
        int bits = 0;
        for (Vote vote : votes) {
            bits |= vote.up && vote.page == page ? 1 << vote.person : 0;
        }
        return bits;
    }

    int breaks(int box, int left, int top) {
        needIndex(isHere(box));
        Sheet sheet = all.get(box);
        needArgument(isWithin(left, top, sheet.width, sheet.height));
        int oldLeft = sheet.left;
        int oldTop = sheet.top;
        sheet.left = left;
        sheet.top = top;
        int count = 0;
        for (Vote vote : votes) {
            count += vote.up && !vote.seen.equals(reading(vote.page)) ? 1 : 0;
        }
        sheet.left = oldLeft;
        sheet.top = oldTop;
        return count;
    }

    private int fall() {
        int count = 0;
        for (Vote vote : votes) {
            if (vote.up && !vote.seen.equals(reading(vote.page))) {
                vote.up = false;
                count++;
            }
        }
        return count;
    }

    private int led(int box) {
        for (int[] tie : ties) {
            if (tie[0] == box) {
                return tie[1];
            }
        }
        return -1;
    }

    private int leading(int box) {
        for (int[] tie : ties) {
            if (tie[1] == box) {
                return tie[0];
            }
        }
        return -1;
    }

    private List<Integer> reading(int page) {
        List<Integer> free = new ArrayList<>();
        for (int box = 0; box < all.size(); box++) {
            if (isHere(box) && all.get(box).page == page && leading(box) == -1) {
                free.add(box);
            }
        }
        List<Integer> reading = new ArrayList<>();
        for (int first : cut(free)) {
            for (int box = first; box != -1; box = led(box)) {
                reading.add(box);
            }
        }
        return reading;
    }

    private List<Integer> cut(List<Integer> set) {
        for (int way = 0; way < 2; way++) {
            for (int at = 0; at <= 80; at++) {
                List<Integer> first = new ArrayList<>();
                List<Integer> then = new ArrayList<>();
                for (int box : set) {
                    Sheet s = all.get(box);
                    if ((way == 0 ? s.top + s.height : s.left + s.width) <= at) {
                        first.add(box);
                    } else if ((way == 0 ? s.top : s.left) >= at) {
                        then.add(box);
                    }
                }
                if (first.size() + then.size() == set.size() && !first.isEmpty() && !then.isEmpty()) {
                    List<Integer> both = cut(first);
                    both.addAll(cut(then));
                    return both;
                }
            }
        }
        List<Integer> sorted = new ArrayList<>(set);
        sorted.sort((a, b) -> {
            Sheet s = all.get(a);
            Sheet t = all.get(b);
            return s.top != t.top ? s.top - t.top : s.left != t.left ? s.left - t.left : a - b;
        });
        return sorted;
    }
}
