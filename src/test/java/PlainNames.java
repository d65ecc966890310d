import java.util.ArrayList;
import java.util.HashSet;
import java.util.List;
import java.util.NoSuchElementException;
import java.util.Set;
import java.util.TreeMap;

/**
 * The document told once more as plainly as can be, for ModelTest to compare with: places are
 * gathered as its Terms say, from all pairs of rows, and texts are compared by the library.
 */
public final class PlainNames {
    private record Entry(String name, int serial, int target) {
    }

    private TreeMap<Integer, Entry> held = new TreeMap<>();
    private int latest = 0;
    private String hand = "A";
    private int found = 0;
    private int writes = 0;
    private boolean on = true;
    private int left = -1;

    public void name(long w, int n) {
        StringBuilder text = new StringBuilder();
        for (int i = 0; i < n && i < 8; i++) {
            text.append((char) (w >> (8 * i) & 255));
        }
        if (n < 1 || n > 7 || text.indexOf("\0") >= 0 || text.indexOf("/") >= 0) {
            throw new IllegalArgumentException();
        }
        hand = text.toString();
    }

    public int add(int target) {
        power();
        if (named(held, hand) != null) {
            return -1;
        }
        if (held.size() == 24) {
            return -2;
        }
        TreeMap<Integer, Entry> behind = new TreeMap<>(held);
        behind.put(latest + 1, new Entry(hand, latest + 1, target));
        int answer = change(behind, List.of(hand), latest + 1, latest + 1);
        latest += answer > 0 ? 1 : 0;
        return answer;
    }

    public int remove() {
        power();
        Entry entry = named(held, hand);
        if (entry == null) {
            return -1;
        }
        TreeMap<Integer, Entry> behind = new TreeMap<>(held);
        behind.remove(entry.serial());
        return change(behind, List.of(hand), entry.serial(), entry.serial());
    }

    public int replace(int target) {
        power();
        Entry entry = named(held, hand);
        if (entry == null) {
            return -1;
        }
        TreeMap<Integer, Entry> behind = new TreeMap<>(held);
        behind.put(entry.serial(), new Entry(hand, entry.serial(), target));
        return change(behind, List.of(hand), -1, entry.serial());
    }

    public int rename(int serial) {
        power();
        Entry entry = held.get(serial);
        if (entry == null) {
            throw new NoSuchElementException();
        }
        if (named(held, hand) != null) {
            return -1;
        }
        TreeMap<Integer, Entry> behind = new TreeMap<>(held);
        behind.put(serial, new Entry(hand, serial, entry.target()));
        return change(behind, List.of(entry.name(), hand), serial, serial);
    }

    public int find() {
        power();
        Entry entry = named(held, hand);
        if (entry == null) {
            throw new NoSuchElementException();
        }
        return entry.target();
    }

    public int serial() {
        power();
        Entry entry = named(held, hand);
        return entry == null ? -1 : entry.serial();
    }

    public int next(int cookie) {
        power();
        Integer above = held.higherKey(cookie);
        found = above == null ? 0 : above;
        return above == null ? -1 : above;
    }

    public int listed(int k, int n) {
        power();
        if (n < 0 || n > hand.length()) {
            throw new IllegalArgumentException();
        }
        List<Entry> list = new ArrayList<>(held.values());
        list.removeIf(entry -> !entry.name().startsWith(hand.substring(0, n)));
        list.sort((a, b) -> a.name().compareTo(b.name()));
        boolean there = k >= 0 && k < list.size();
        found = there ? list.get(k).serial() : 0;
        return there ? found : -1;
    }

    public int rank() {
        power();
        return (int) held.values().stream().filter(entry -> entry.name().compareTo(hand) < 0).count();
    }

    public long found() {
        power();
        return held.containsKey(found) ? Checks.word(held.get(found).name()) : 0;
    }

    public int count() {
        power();
        return held.size();
    }

    public int free() {
        power();
        return 60 - places(nameRows(held)).size() - places(serialRows(held)).size();
    }

    public int writes() {
        return writes;
    }

    public void failAfter(int n) {
        if (n < -1) {
            throw new IllegalArgumentException();
        }
        left = n;
    }

    public boolean start() {
        if (on) {
            return false;
        }
        on = true;
        left = -1;
        found = 0;
        return true;
    }

    public boolean isOn() {
        return on;
    }

    private void power() {
        if (!on) {
            throw new IllegalStateException();
        }
    }

    private int change(TreeMap<Integer, Entry> behind, List<String> names, int serial, int answer) {
        int pages = 0;
        for (String place : places(nameRows(behind))) {
            pages += names.stream().anyMatch(name -> name.startsWith(place)) ? 1 : 0;
        }
        for (String place : places(serialRows(behind))) {
            pages += serial > 0 && serialRow(serial).startsWith(place) ? 1 : 0;
        }
        if (pages > free()) {
            return -2;
        }
        writes = 0;
        while (writes < pages + 1) {
            if (left == 0) {
                on = false;
                return -3;
            }
            left -= left > 0 ? 1 : 0;
            writes++;
        }
        held = behind;
        return answer;
    }

    private static Entry named(TreeMap<Integer, Entry> entries, String name) {
        return entries.values().stream().filter(entry -> entry.name().equals(name)).findFirst().orElse(null);
    }

    private static List<String> nameRows(TreeMap<Integer, Entry> entries) {
        return entries.values().stream().map(Entry::name).toList();
    }

    private static List<String> serialRows(TreeMap<Integer, Entry> entries) {
        return entries.keySet().stream().map(PlainNames::serialRow).toList();
    }

    private static String serialRow(int serial) {
        return "" + (char) (serial / 256) + (char) (serial % 256);
    }

    private static Set<String> places(List<String> rows) {
        Set<String> places = new HashSet<>(rows);
        places.add("");
        for (String one : rows) {
            for (String other : rows) {
                if (!one.equals(other)) {
                    places.add(common(one, other));
                }
            }
        }
        return places;
    }

    private static String common(String one, String other) {
        int length = 0;
        while (length < one.length() && other.startsWith(one.substring(0, length + 1))) {
            length++;
        }
        return one.substring(0, length);
    }
}
