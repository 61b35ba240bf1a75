import java.util.ArrayList;
import java.util.List;

/** A machine that carries one part a trip, all parts at 0, 0: exchanges can alter nothing but its changes. */
final class NozzleRow {
    private record Part(int number, int nozzle, int height) { }

    private final List<Part> row = new ArrayList<>();

    void add(int nozzle, int height) {
        row.add(new Part(row.size(), nozzle, height));
    }

    /** As at the beginning of a run. */
    void stand() {
        row.sort((a, b) -> a.height != b.height ? a.height - b.height : a.number - b.number);
    }

    /** One exchange after the machine has been drawn: how many were kept. */
    int exchange(Drawn drawn) {
        if (row.size() < 2) {
            return 0;
        }
        int a = drawn.mod(row.size());
        int b = drawn.mod(row.size());
        int before = changes();
        if (row.get(a).height != row.get(b).height) {
            return 0;
        }
        swap(a, b);
        if (changes() < before) {
            return 1;
        }
        swap(a, b);
        return 0;
    }

    private void swap(int a, int b) {
        Part kept = row.get(a);
        row.set(a, row.get(b));
        row.set(b, kept);
    }

    int changes() {
        int count = 0;
        for (int i = 1; i < row.size(); i++) {
            count += row.get(i - 1).nozzle != row.get(i).nozzle ? 1 : 0;
        }
        return count;
    }

    @Override
    public String toString() {
        String text = "";
        for (Part each : row) {
            text += (text.isEmpty() ? "" : " ") + each.number;
        }
        return text;
    }
}
