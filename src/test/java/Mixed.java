import java.util.ArrayList;
import java.util.Collections;
import java.util.List;

/** A pack that is mixed from a seed, by the document's words. */
final class Mixed {
    private Mixed() {
    }

    static int[] cards(int pack, int seed) {
        List<Integer> rest = new ArrayList<>();
        for (int c = 0; c < pack; c++) {
            rest.add(c);
        }
        int x = seed;
        for (int i = pack - 1; i >= 1; i--) {
            x = x * 1664525 + 1013904223;
            Collections.swap(rest, i, (x >>> 8) % (i + 1));
        }
        return rest.stream().mapToInt(c -> c).toArray();
    }
}
