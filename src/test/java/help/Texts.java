import java.util.List;
import java.util.Random;

/** Makes texts by the grammar of the document, and spoils some of them. */
final class Texts {
    private final Random r;

    Texts(Random r) {
        this.r = r;
    }

    private String pick(List<String> from) {
        return from.get(r.nextInt(from.size()));
    }

    private String blank() {
        return pick(List.of(" ", " ", " ", "  ", "\n"));
    }

    private String maybeBlank() {
        return r.nextInt(3) == 0 ? blank() : "";
    }

    private String number(int max) {
        String n = Integer.toString(r.nextInt(max + 1));
        return r.nextInt(20) == 0 && n.length() < 4 ? "0" + n : n;
    }

    private String unit(int k) {
        return r.nextInt(2) == 0 ? pick(Model.ASKS.get(k)) : number(r.nextInt(8) == 0 ? 9999 : 99);
    }

    private String sum(int k) {
        StringBuilder b = new StringBuilder(unit(k));
        int n = r.nextInt(4);
        for (int i = 0; i < n; i++) {
            b.append(maybeBlank());
            switch (r.nextInt(6)) {
                case 0, 1 -> b.append("+").append(maybeBlank()).append(unit(k));
                case 2, 3 -> b.append("-").append(maybeBlank()).append(unit(k));
                case 4 -> b.append("*").append(maybeBlank()).append(unit(k));
                default -> b.append("/").append(maybeBlank()).append(r.nextInt(25) == 0 ? "0" : Integer.toString(1 + r.nextInt(20)));
            }
        }
        return b.toString();
    }

    private String check(int k, int depth) {
        StringBuilder b = new StringBuilder();
        int n = 1 + (r.nextInt(3) == 0 ? r.nextInt(3) : 0);
        for (int i = 0; i < n; i++) {
            if (i > 0) {
                b.append(blank()).append(r.nextBoolean() ? "and" : "or").append(blank());
            }
            int kind = depth > 8 ? 9 : r.nextInt(10);
            if (kind == 0) {
                b.append("not ").append(check(k, depth + 1));
            } else if (kind == 1) {
                b.append("(").append(check(k, depth + 1)).append(maybeBlank()).append(")");
            } else if (kind == 2 && r.nextInt(4) == 0) {
                b.append("not ".repeat(r.nextInt(9))).append("(".repeat(1)).append(check(k, depth + 3)).append(")");
            } else {
                b.append(sum(k)).append(pick(List.of("<", "=", ">"))).append(sum(k));
            }
        }
        return b.toString();
    }

    String law(int k) {
        StringBuilder b = new StringBuilder();
        int lines = r.nextInt(15) == 0 ? 15 + r.nextInt(4) : r.nextInt(5);
        for (int i = 0; i < lines; i++) {
            b.append(Model.LAW_WORD[k]).append(blank()).append(lines > 5 ? unit(k) : sum(k));
            if (r.nextInt(3) > 0 && lines <= 5) {
                b.append(blank()).append("when ").append(check(k, 0));
            }
            b.append(maybeBlank()).append(";").append(maybeBlank());
        }
        return spoil(b.toString());
    }

    private String oneStep(int depth) {
        int odd = r.nextInt(60) == 0 ? 5 : 0;
        return switch (r.nextInt(depth > 4 ? 8 : 10)) {
            case 0, 1, 2 -> "tie " + number(5 + odd) + " at " + number(7 + 4 * odd) + ";";
            case 3, 4 -> "untie " + number(7 + 4 * odd) + ";";
            case 5 -> "pull " + number(99 + odd) + ";";
            case 6 -> "wet " + number(9 + odd) + ";";
            case 7 -> "rest " + (r.nextInt(20) == 0 ? number(33) : Integer.toString(1 + r.nextInt(3))) + ";";
            default -> "again" + blank() + (odd > 0 ? number(10) : Integer.toString(1 + r.nextInt(4))) + maybeBlank() + "("
                    + manySteps(depth + 1) + ")";
        };
    }

    private String manySteps(int depth) {
        StringBuilder b = new StringBuilder();
        int n = depth == 0 ? r.nextInt(9) : r.nextInt(4);
        for (int i = 0; i < n; i++) {
            b.append(oneStep(depth)).append(maybeBlank());
        }
        return b.toString();
    }

    String drill() {
        return spoil(manySteps(0));
    }

    String shape() {
        StringBuilder b = new StringBuilder();
        int n = r.nextInt(r.nextInt(8) == 0 ? 10 : 8);
        for (int i = 0; i < n; i++) {
            b.append("out".charAt(r.nextInt(3))).append(maybeBlank());
        }
        return spoil(b.toString());
    }

    private String spoil(String text) {
        String t = text;
        if (r.nextInt(4) == 0 && !t.isEmpty()) {
            int i = r.nextInt(t.length());
            String odd = pick(List.of(";", "(", ")", "not ", "tie ", "at ", "9", "0", "12345", "x", "A", "\t", "\u00e9", "<", "when ", "and ",
                    "=", "/", "again ", "o", "t", "u", "ties", " "));
            t = switch (r.nextInt(4)) {
                case 0 -> t.substring(0, i);
                case 1 -> t.substring(0, i) + t.substring(i + 1);
                case 2 -> t.substring(0, i) + odd + t.substring(i);
                default -> t.substring(0, i) + odd + t.substring(i + 1);
            };
        }
        return t.length() > 400 ? t.substring(0, 400) : t;
    }
}
