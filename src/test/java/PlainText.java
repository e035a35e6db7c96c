import java.util.ArrayList;
import java.util.List;

/** The text read another way: cut into pieces first, and every fault gathered, of which the first counts. */
final class PlainText {
    final PlainClocks.World world = new PlainClocks.World();
    int kind = 0;
    int place = -1;

    /** sort: 'w' a letter by itself, 'n' a number, 'e' the end. */
    private record Piece(char sort, int at, String letters) { }

    private final List<int[]> faults = new ArrayList<>();

    PlainText(String text) {
        List<Piece> pieces = cut(text);
        int p = 0;
        int strikes = 0;
        int steps = 0;
        while (faults.isEmpty() && pieces.get(p).sort != 'e') {
            Piece word = pieces.get(p++);
            String shape = switch (word.letters) {
                case "k" -> "nn;";
                case "l", "f", "s" -> "n;";
                default -> null;
            };
            if (shape == null || word.sort != 'w') {
                faults.add(new int[] {word.at, 1});
                break;
            }
            if (word.letters.equals("k") && world.clocks.size() == 8) {
                faults.add(new int[] {word.at, 3});
            }
            if (word.letters.equals("f") && strikes++ > 0 || word.letters.equals("s") && steps++ > 0) {
                faults.add(new int[] {word.at, 4});
            }
            List<Integer> numbers = new ArrayList<>();
            for (char due : shape.toCharArray()) {
                Piece piece = pieces.get(p);
                boolean fits = due == 'n' ? piece.sort == 'n' : piece.letters.equals(";");
                if (!fits) {
                    faults.add(new int[] {piece.at, 1});
                    break;
                }
                if (due == 'n') {
                    numbers.add(judge(word.letters.charAt(0), numbers.size(), piece));
                }
                p++;
            }
            if (faults.isEmpty()) {
                obey(word.letters.charAt(0), numbers);
            }
        }
        for (int[] fault : faults) {
            if (kind == 0 || fault[0] < place || fault[0] == place && fault[1] < kind) {
                place = fault[0];
                kind = fault[1];
            }
        }
    }

    private static List<Piece> cut(String text) {
        List<Piece> pieces = new ArrayList<>();
        int at = 0;
        while (at < text.length()) {
            int from = at;
            char first = text.charAt(at++);
            if (first >= '0' && first <= '9') {
                while (at < text.length() && text.charAt(at) >= '0' && text.charAt(at) <= '9') {
                    at++;
                }
                pieces.add(new Piece('n', from, text.substring(from, at)));
            } else if (first != ' ') {
                pieces.add(new Piece('w', from, text.substring(from, at)));
            }
        }
        pieces.add(new Piece('e', text.length(), ""));
        return pieces;
    }

    private int judge(char word, int which, Piece piece) {
        if (piece.letters.length() > 4) {
            faults.add(new int[] {piece.at, 2});
            return 0;
        }
        int number = Integer.parseInt(piece.letters);
        int least = word == 'k' && which == 1 ? 90 : 0;
        int most = switch (word) {
            case 'k' -> which == 0 ? 9999 : 110;
            case 'l' -> world.clocks.size() - 1;
            case 'f' -> 3;
            default -> 80;
        };
        if (number < least || number > most) {
            faults.add(new int[] {piece.at, 2});
        } else if (word == 'l' && world.clocks.get(number).lies) {
            faults.add(new int[] {piece.at, 4});
        }
        return number;
    }

    private void obey(char word, List<Integer> numbers) {
        switch (word) {
            case 'k' -> {
                PlainClocks.Clock c = new PlainClocks.Clock();
                c.value = numbers.get(0);
                c.rate = numbers.get(1);
                world.clocks.add(c);
            }
            case 'l' -> world.clocks.get(numbers.get(0)).lies = true;
            case 'f' -> world.f = numbers.get(0);
            default -> world.step = numbers.get(0);
        }
    }
}
