/**
 * Everything that can be seen of an object, as one text, so that two objects can be compared.
 * It asks no more than it must: an object is good for 512 calls, and a look is most of them when 32 fly.
 */
final class Look {
    private Look() {
    }

    static String at(LeasedReferences x) {
        StringBuilder seen = new StringBuilder();
        int flying = x.flight();
        for (int k = 0; k < flying; k++) {
            seen.append(" m").append(k).append('(');
            for (int which = 0; which <= 5; which++) {
                seen.append(x.message(k, which)).append(' ');
            }
            seen.append(')');
        }
        for (int node = 0; node < 4; node++) {
            seen.append("\nnode ").append(node).append(" pins ").append(x.pins(node)).append(" call");
            for (int which = 0; which <= 2; which++) {
                seen.append(' ').append(x.outcome(node, which));
            }
            seen.append(" roots");
            for (int root = 0; root < 3; root++) {
                seen.append(' ').append(x.root(node, root));
            }
            for (int k = 0; k < 8; k++) {
                slot(x, node, k, seen);
            }
        }
        return seen.toString();
    }

    private static void slot(LeasedReferences x, int node, int k, StringBuilder seen) {
        int holds = x.slot(node, k, 0);
        seen.append(" s").append(k).append('(').append(holds);
        for (int which = 1; which <= 4 && holds != 0; which++) {
            seen.append(' ').append(x.slot(node, k, which));
        }
        for (int client = 0; client < 4 && holds == 1; client++) {
            if (client != node) {
                seen.append('/').append(x.listing(node, k, client));
            }
        }
        seen.append(')');
    }
}
