/** Whatever is called with whatever numbers, nothing is thrown, and asking changes nothing. */
public final class AnyCallTest {
    private static final String TEXT = "board a ribs 3 zinc 20;board b ribs 9 zinc 99;stain s deep 90 stuff 0;stain t deep 40 stuff 7;"
            + "hearer h sin 0 ear 0;hearer i sin 9 ear 4;out ribs-stuff+rub/0;wear zinc%4;saved came>sin;slide came<2;dry 30;picks zinc;";
    private static final int[] EDGES = {-1, 0, 1, 2, 5, 6, 39, 40, 41, 99, 100, Integer.MAX_VALUE, Integer.MIN_VALUE};
    private static final String JUNK = "(([not  min(if(all,12+-*/%<>=;,)]";
    private static long drawn = 99;

    private static int draw(int m) {
        drawn = 6364136223846793005L * drawn + 1442695040888963407L;
        return (int) ((drawn >>> 33) % m);
    }

    private static int any() {
        return draw(3) == 0 ? EDGES[draw(EDGES.length)] : draw(8);
    }

    public static void main(String[] args) {
        for (int run = 0; run < 300; run++) {
            ZincSermon x = draw(4) == 0 ? new ZincSermon() : Check.chapel(TEXT);
            for (int k = 0; k < 400; k++) {
                if (draw(3) == 0) {
                    act(x);
                } else {
                    long before = Check.all(x);
                    ask(x);
                    Check.due("what is asked changes nothing", Check.all(x), before);
                }
            }
        }
        junk();
        Check.end();
    }

    private static void ask(ZincSermon x) {
        x.fault(any());
        x.has(any());
        x.letter(any(), any(), any());
        x.board(any(), any());
        x.stain(any(), any());
        x.hearer(any(), any());
        x.strokes(any(), any(), any());
        x.needed(any(), any(), any());
        x.best(any());
        x.match(any());
        x.heads(any(), any());
        x.later(any(), any());
        x.worn(any(), any());
        x.saved(any());
        x.clean();
        x.which();
        x.tells(any(), any());
        x.kept(any(), any());
        x.image();
        x.octet(any());
        x.status(any());
    }

    private static void act(ZincSermon x) {
        switch (draw(12)) {
            case 0:
                x.feed(any(), any(), any(), any(), any());
                break;
            case 1:
                x.end(any());
                break;
            case 2:
                x.see();
                break;
            case 3:
                x.on();
                break;
            case 4:
                x.weeks(any());
                break;
            case 5:
                x.chance(any());
                break;
            case 6:
                x.sermon(any(), any(), any());
                break;
            case 7:
                x.soil(any(), any());
                break;
            case 8:
                x.mend(any());
                break;
            case 9:
                x.pour(any());
                break;
            case 10:
                x.undo();
                break;
            default:
                x.seed(any());
        }
    }

    /** Texts with bytes changed, cut, doubled: a FAULT's place is never beyond the text. */
    private static void junk() {
        for (int k = 0; k < 20000; k++) {
            StringBuilder text = new StringBuilder(TEXT);
            for (int n = 1 + draw(3); n > 0 && text.length() > 0; n--) {
                int at = draw(text.length());
                switch (draw(4)) {
                    case 0:
                        text.deleteCharAt(at);
                        break;
                    case 1:
                        text.setCharAt(at, (char) draw(256));
                        break;
                    case 2:
                        text.insert(at, JUNK.charAt(draw(JUNK.length())));
                        break;
                    default:
                        text.setLength(at + 1);
                }
            }
            ZincSermon x = new ZincSermon();
            Check.tape(x, text.toString());
            boolean refused = x.chapel() < 0;
            Check.due("a FAULT when it is refused", x.fault(0) != 0, refused);
            Check.due("its place is in the text", x.fault(1) >= (refused ? 0 : -1) && x.fault(1) <= text.length(), true);
        }
    }
}
