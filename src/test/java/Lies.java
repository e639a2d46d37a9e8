/** What lies on run 0 is as it is due. */
final class Lies {
    private Lies() {
    }

    static void layer(String what, Pistekeeper x, int layer, int depth, int hardness, int kind) {
        Check.same(what + ": depth", x.ofLayer(0, layer, 0), depth);
        Check.same(what + ": hardness", x.ofLayer(0, layer, 1), hardness);
        Check.same(what + ": kind", x.ofLayer(0, layer, 2), kind);
    }

    static void layers(String what, Pistekeeper x, int due) {
        Check.same(what + ": layers", x.ofRun(0, 1), due);
    }

    static void depth(String what, Pistekeeper x, int due) {
        Check.same(what + ": depth of all", x.ofRun(0, 2), due);
    }

    static void depths(String what, Pistekeeper x, int... due) {
        layers(what, x, due.length);
        for (int layer = 0; layer < due.length && layer < x.ofRun(0, 1); layer++) {
            Check.same(what + ": depth of " + layer, x.ofLayer(0, layer, 0), due[layer]);
        }
    }

    static void wet(String what, Pistekeeper x, boolean due) {
        Check.same(what + ": wet", x.ofRun(0, 3), due ? 1 : 0);
    }
}
