import java.util.ArrayList;
import java.util.Comparator;
import java.util.List;

/** The document's words on a list that is simply sorted: what an object should answer. */
final class Model {
    private final int w;
    private final int room;
    private final List<int[]> list = new ArrayList<>();
    private List<int[]> rows = null;
    private int consumed = 0;
    private int key = 0;
    private int value = 0;
    private int[] group = new int[4];

    Model(int w, int s) {
        this.w = Math.min(64, Math.max(1, w));
        int spill = Math.min(2000, Math.max(1, s));
        this.room = this.w * (spill / this.w + 1);
    }

    void reset() {
        list.clear();
        rows = null;
        consumed = 0;
        nothing();
    }

    private void nothing() {
        key = 0;
        value = 0;
        group = new int[4];
    }

    int feed(int k, int v) {
        if (rows != null) {
            return -3;
        }
        if (list.size() == room) {
            return -2;
        }
        int run = list.size() / w;
        list.add(new int[] {k, v, run});
        return 0;
    }

    int feedMany(int k, int step, int v, int n) {
        if (rows != null) {
            return -3;
        }
        int came = 0;
        while (came < n && feed(k + came * step, v + came) == 0) {
            came++;
        }
        return came;
    }

    int seal() {
        if (rows != null) {
            return -3;
        }
        rows = new ArrayList<>(list);
        rows.sort(Comparator.comparingInt(pair -> pair[0]));
        nothing();
        return 0;
    }

    int nextRow() {
        if (rows == null) {
            return -4;
        }
        nothing();
        if (consumed == rows.size()) {
            return -1;
        }
        key = rows.get(consumed)[0];
        value = rows.get(consumed)[1];
        consumed++;
        return 1;
    }

    int nextGroup() {
        if (rows == null) {
            return -4;
        }
        nothing();
        if (consumed == rows.size()) {
            return -1;
        }
        int wanted = rows.get(consumed)[0];
        int[] members = rows.stream().skip(consumed)
            .filter(r -> r[0] == wanted).mapToInt(r -> r[1]).toArray();
        key = wanted;
        group[0] = members.length;
        group[2] = Integer.MAX_VALUE;
        group[3] = Integer.MIN_VALUE;
        for (int member : members) {
            group[1] += member;
            group[2] = Math.min(group[2], member);
            group[3] = Math.max(group[3], member);
        }
        consumed += members.length;
        return 2;
    }

    int skipTo(int k) {
        if (rows == null) {
            return -4;
        }
        nothing();
        int skipped = (int) rows.stream().skip(consumed).filter(r -> r[0] < k).count();
        consumed += skipped;
        return skipped;
    }

    int key() {
        return key;
    }

    int value() {
        return value;
    }

    int group(int what) {
        return group[what];
    }

    int count(int what) {
        int spilled = list.isEmpty() ? 0 : (list.size() - 1) / w;
        switch (what) {
            case 0:
                return list.size();
            case 1:
                return spilled * w;
            case 2:
                return consumed;
            default:
                return rows == null ? spilled : runsWithRows();
        }
    }

    private int runsWithRows() {
        return (int) rows.stream().skip(consumed).mapToInt(r -> r[2]).distinct().count();
    }
}
