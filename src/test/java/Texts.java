import java.util.ArrayList;
import java.util.List;

/** Makes texts of networks, with many ties of costs, and breaks some of them. */
final class Texts {
    private static final String[] NAMES = {"a", "b", "c", "dd", "eee", "f", "g", "hijklm", "i", "zzzzzz", "j", "k"};
    private static final String[] PIECES = {"node", "road", "oneway", "turns", "depot", "salt", "spread", "snow", "fall",
        ";", "a", "b", "dd", "hijklm", "abcdefg", "0", "1", "3", "4", "99", "100", "999", "1000", "9999", "10000",
        "99999999999999999999", "00", "007", "-", "A", "\u00e9", "\t", "\u0000", "\u00ff", "", " ", "\n", "q", "aa"};

    private Texts() {
    }

    static String any(Dice dice) {
        List<String> statements = new ArrayList<>();
        int nodes = dice.one(20) ? dice.below(2) : dice.one(30) ? 11 : dice.from(2, 10);
        int side = dice.pick(3, 4, 5, 100);
        for (int i = 0; i < nodes; i++) {
            int x = side == 100 ? dice.below(100) : i / side;
            int y = side == 100 ? dice.below(100) : i % side;
            statements.add("node " + NAMES[i] + " " + x + " " + y);
        }
        int roads = nodes < 2 ? 0 : dice.one(40) ? 13 : dice.below(13);
        int longest = dice.pick(1, 2, 3, 10, 999);
        int oneway = dice.pick(1, 2, 4, 20);
        int mostClass = dice.pick(2, 3, 3);
        for (int i = 0; i < roads; i++) {
            int from = dice.below(nodes);
            // Neighbours are preferred, so that many networks hold together.
            int to = dice.one(3) ? dice.below(nodes) : (from + 1) % nodes;
            if (to == from && !dice.one(30)) {
                to = (from + 1) % nodes;
            }
            statements.add("road " + NAMES[i % 12] + " " + NAMES[from] + " " + NAMES[to] + " " + dice.from(1, longest)
                    + " " + dice.from(1, mostClass) + (dice.one(oneway) ? " oneway" : ""));
        }
        addSettings(statements, nodes, roads, dice);
        return broken(String.join(dice.pick(0, 1) == 0 ? ";" : " ; \n", statements) + (nodes > 0 ? ";" : ""), dice);
    }

    private static void addSettings(List<String> statements, int nodes, int roads, Dice dice) {
        int most = dice.pick(1, 3, 20, 99);
        if (!dice.one(3)) {
            statements.add("turns " + dice.from(0, most) + " " + dice.from(0, most) + " " + dice.from(0, most) + " "
                    + dice.from(0, most));
        }
        if (nodes > 0 && dice.one(2)) {
            statements.add("depot " + NAMES[dice.below(nodes)]);
        }
        if (dice.one(2)) {
            statements.add("salt " + dice.pick(0, 1, 10, 50, 300, 9999));
        }
        if (dice.one(2)) {
            statements.add("spread " + dice.from(0, 99) + " " + dice.from(0, 99) + " " + dice.from(0, 99));
        }
        for (int i = dice.below(6); i > 0 && roads > 0; i--) {
            statements.add("snow " + NAMES[dice.below(Math.min(12, roads))] + " " + dice.pick(0, 1, 50, 99, 999));
        }
        if (!dice.one(3)) {
            statements.add("fall " + dice.pick(0, 1, 7, 36, 60, 99));
        }
        if (dice.one(40)) {
            statements.add("fall 3");
        }
    }

    private static String broken(String text, Dice dice) {
        String result = text;
        for (int i = dice.one(3) ? dice.from(1, 3) : 0; i > 0; i--) {
            String piece = PIECES[dice.below(PIECES.length)];
            int at = dice.below(result.length() + 1);
            int skipped = Math.min(result.length() - at, dice.below(4));
            result = result.substring(0, at) + piece + result.substring(at + skipped);
        }
        return result.length() > 1180 ? result.substring(0, 1180) : result;
    }
}
