/** Everything that can be seen of an object, as one text, so that two moments can be compared. */
final class Look {
    private Look() {
    }

    static String at(LeasedReferences x) {
        StringBuilder seen = new StringBuilder();
        for (int k = 0; k < x.flight(); k++) {
            seen.append(" m").append(k).append('(');
            for (int which = 0; which <= 5; which++) {
                seen.append(x.message(k, which)).append(' ');
            }
            seen.append(')');
        }
        for (int node = 0; node < 4; node++) {
            seen.append("\nnode ").append(node).append(" pins ").append(x.pins(node)).append(" call");
            for (int which = 0; which <= 2; which++) {
                seen.append(' ').append(x.outcome(node, which));
            }
            seen.append(" roots");
            for (int root = 0; root < 3; root++) {
                seen.append(' ').append(x.root(node, root));
            }
            for (int k = 0; k < 8; k++) {
                seen.append(" s").append(k).append('(');
                for (int which = 0; which <= 4; which++) {
                    seen.append(x.slot(node, k, which)).append(' ');
                }
                for (int client = 0; client < 4; client++) {
                    seen.append('/').append(x.listing(node, k, client));
                }
                seen.append(')');
            }
        }
        return seen.toString();
    }
}
