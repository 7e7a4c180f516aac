/** Promises 1 to 5: a new object, the tape, the text and its FAULTS. */
public final class TextTest {
    private static final String B = "board a ribs 1 zinc 1;";

    public static void main(String[] args) {
        newObject();
        tapes();
        goodTexts();
        wrongBytes();
        wordsAndNumbers();
        names();
        numbers();
        openAtOnce();
        tooMany();
        firstAlong();
        whatStays();
        Check.end();
    }

    private static void newObject() {
        ZincSermon x = new ZincSermon();
        for (int what = 0; what <= 10; what++) {
            Check.due("new has(" + what + ")", x.has(what), 0);
        }
        Check.due("new has(11)", x.has(11), 1);
        Check.due("new fault(0)", x.fault(0), 0);
        Check.due("new fault(1)", x.fault(1), -1);
        for (int what = 0; what < 6; what++) {
            Check.due("new status(" + what + ")", x.status(what), 0);
        }
        Check.due("new octet(0)", x.octet(0), -1);
        Check.due("new which()", x.which(), 0);
        Check.due("new match(NONE)", x.match(-1), 0);
        Check.due("new clean()", x.clean(), 0);
    }

    private static void tapes() {
        ZincSermon x = new ZincSermon();
        Check.due("end(0) of nothing", x.end(0), true);
        Check.due("end(1) of nothing", x.end(1), false);
        Check.due("end(-1)", x.end(-1), false);
        Check.due("status(0)", x.status(0), 2);
        for (int n = 1; n <= 80; n++) {
            Check.due("feed " + n, x.feed(0, 0, 0, 0, 0), 20 * n);
        }
        Check.due("feed 81", x.feed(0, 0, 0, 0, 0), -1);
        Check.due("end(1600)", x.end(1600), true);
        Check.due("end(1601)", x.end(1601), false);
        Check.due("end(1581)", x.end(1581), true);
        Check.due("feed behind 1581", x.feed(0, 0, 0, 0, 0), -1);
        Check.due("end(1580)", x.end(1580), true);
        Check.due("feed behind 1580", x.feed(0, 0, 0, 0, 0), 1600);
        Check.due("status(0)", x.status(0), 5);
        Check.due("end(3)", x.end(3), true);
        Check.due("end(MIN)", x.end(Integer.MIN_VALUE), false);
        Check.due("end(MAX)", x.end(Integer.MAX_VALUE), false);
        Check.due("feed behind 3", x.feed(1, 2, 3, 4, 5), 23);
        Check.due("chapel() of zeros", x.chapel(), -1);
        Check.due("its place", x.fault(1), 0);
        Check.due("the tape goes", x.feed(0, 0, 0, 0, 0), 20);
        x.end(0);
        Check.due("chapel() of nothing", x.chapel(), 0);
        // The highest byte of each number comes first: "dry 12;" and then blanks.
        x.feed(0x64727920, 0x31323b20, 0x0a202020, 0x20202020, 0x20202020);
        Check.due("chapel() of dry", x.chapel(), 1);
        behindTheEnd("water 12;", 7, 7);
        behindTheEnd("water 12345;", 10, 10);
        behindTheEnd("waters 1;", 5, 5);
        behindTheEnd("board abcdefg", 12, 12);
        behindTheEnd("water  ;", 6, 6);
    }

    /** What was on the tape behind its end is not read. */
    private static void behindTheEnd(String text, int n, int place) {
        ZincSermon x = new ZincSermon();
        Check.tape(x, text);
        Check.due("end(" + n + ") of " + text, x.end(n), true);
        Check.due("chapel() of what is left of " + text, x.chapel(), -1);
        Check.due("fault(0) of what is left of " + text, x.fault(0), text.startsWith("water 1234") ? 4 : 1);
        Check.due("fault(1) of what is left of " + text, x.fault(1), text.startsWith("water 1234") ? 6 : place);
    }

    private static void goodTexts() {
        Check.good("", 0);
        Check.good(" \n ", 0);
        Check.good("water 5;", 1);
        Check.good("water 0;dry 100;water 0099;dry 0;", 4);
        Check.good("\nboard\na\nribs\n9\nzinc\n99\n;\n", 1);
        Check.good("out(1);wear 1+2*3/4%5-6;picks(ribs)*(zinc);", 3);
        Check.good("saved all;slide not all;", 2);
        Check.good("saved[all]and[all or not[all]];", 1);
        Check.good("saved sin+ear<came*(2)or 1=1 and ribs>zinc;", 1);
        Check.good("slide min(sin,ear)=max(came,week)and deep<stuff+water;", 1);
        Check.good("out if(rub<3 and bone=0,if(all,1,2),min(rub,bone));", 1);
        Check.good("wear rub+bone+ribs+zinc+deep+stuff+water+week+9999;", 1);
        Check.good("picks if([ribs<1],0,week);", 1);
        Check.good("board boards ribs 1 zinc 1;stain outs deep 0 stuff 0;hearer i sin 0 ear 0;", 3);
        Check.good("board abcdef ribs 1 zinc 1;stain abcde deep 99 stuff 9;hearer a sin 9 ear 9;", 3);
    }

    private static void wrongBytes() {
        Check.bad(";", 1, 0);
        Check.bad("water 5;;", 1, 8);
        Check.bad("water 5", 1, 7);
        Check.bad("water 5  ", 1, 9);
        Check.bad("water", 1, 5);
        Check.bad("boa", 1, 0);
        Check.bad("Board a", 1, 0);
        Check.bad("board A ribs 1", 1, 6);
        Check.bad("water\t5;", 1, 5);
        Check.bad("water 5;" + (char) 200, 1, 8);
        Check.bad("ribs 3;", 1, 0);
        Check.bad("3;", 1, 0);
        Check.bad("board a zinc", 1, 8);
        Check.bad("board a ribs zinc", 1, 13);
        Check.bad("board a ribs 1 1", 1, 15);
        Check.bad("board 1", 1, 6);
        Check.bad("out ;", 1, 4);
        Check.bad("out -1;", 1, 4);
        Check.bad("out 1 1;", 1, 6);
        Check.bad("out 1+;", 1, 6);
        Check.bad("out (1;", 1, 6);
        Check.bad("out 1);", 1, 5);
        Check.bad("out min 1", 1, 8);
        Check.bad("out min(1);", 1, 9);
        Check.bad("out min(1,2,3);", 1, 11);
        Check.bad("out if(1,2,3);", 1, 8);
        Check.bad("out if(all,2);", 1, 12);
        Check.bad("out all;", 1, 4);
        Check.bad("out [1];", 1, 4);
        Check.bad("out foo;", 1, 4);
        Check.bad("out dry;", 1, 4);
        Check.bad("out 1<2;", 1, 5);
        Check.bad("saved 1;", 1, 7);
        Check.bad("saved 1<2<3;", 1, 9);
        Check.bad("saved [all;", 1, 10);
        Check.bad("saved (all);", 1, 7);
        Check.bad("saved all or;", 1, 12);
        Check.bad("saved all all;", 1, 10);
        Check.bad("saved not;", 1, 9);
        Check.bad("saved and all;", 1, 6);
        Check.bad("out rub;picks bone;", 1, 14);
        Check.bad("picks came;", 1, 6);
        Check.bad("out ear;", 1, 4);
        Check.bad("wear sin;", 1, 5);
        Check.bad("slide rub=1;", 1, 6);
    }

    private static void wordsAndNumbers() {
        Check.bad("water5;", 1, 5);
        Check.bad("board a ribs 1zinc 1;", 1, 14);
        Check.bad("board a1 ribs", 1, 7);
        Check.bad("saved 1<2or all;", 1, 9);
        Check.bad("water 12345;", 1, 10);
        Check.bad("water 123456789;", 1, 10);
        Check.bad("12345", 1, 4);
        Check.bad("abcdefg", 1, 6);
        Check.bad("abcdefghij", 1, 6);
        Check.bad("board abcdefg ribs", 1, 12);
        Check.bad("water abcdefg", 1, 12);
        Check.bad("out 1 abcdefg", 1, 12);
        Check.bad("board hearers ribs", 1, 12);
        Check.bad("out 10000;", 1, 8);
        Check.bad("board 12345", 1, 10);
        Check.bad("water12345", 1, 5);
        Check.bad("water 1abcdefg", 1, 7);
    }

    private static void names() {
        String[] own = "board ribs zinc stain deep stuff hearer sin ear out wear saved slide picks water dry week rub bone came if or and not all min max".split(" ");
        for (String word : own) {
            Check.bad("board " + word + " ribs 1 zinc 1;", 1, 6);
            Check.bad("stain " + word + " deep 1 stuff 1;", 1, 6);
            Check.bad("hearer " + word + " sin 1 ear 1;", 1, 7);
        }
        Check.bad(B + "board a ribs 1 zinc 1;", 2, 28);
        Check.bad(B + "stain a deep 1 stuff 1;", 2, 28);
        Check.bad(B + "hearer a sin 1 ear 1;", 2, 29);
        Check.bad("hearer ab sin 1 ear 1;stain b deep 1 stuff 1;board ab ribs", 2, 51);
        Check.good(B + "board aa ribs 1 zinc 1;board aaa ribs 1 zinc 1;", 3);
    }

    private static void numbers() {
        Check.bad("board a ribs 0 zinc 1;", 4, 13);
        Check.bad("board a ribs 10 zinc 1;", 4, 13);
        Check.bad("board a ribs 1 zinc 0;", 4, 20);
        Check.bad("board a ribs 1 zinc 100;", 4, 20);
        Check.bad("stain a deep 100 stuff 1;", 4, 13);
        Check.bad("stain a deep 0 stuff 10;", 4, 21);
        Check.bad("hearer a sin 10 ear 1;", 4, 13);
        Check.bad("hearer a sin 0 ear 10;", 4, 19);
        Check.bad("water 100;", 4, 6);
        Check.bad("dry 101;", 4, 4);
        Check.bad("dry 9999", 4, 4);
    }

    private static void openAtOnce() {
        Check.good("out " + Check.times("(", 7) + "1" + Check.times(")", 7) + ";", 1);
        Check.bad("out " + Check.times("(", 8) + "1" + Check.times(")", 8) + ";", 5, 11);
        Check.good("saved " + Check.times("[", 7) + "all" + Check.times("]", 7) + ";", 1);
        Check.bad("saved " + Check.times("[", 8) + "all", 5, 13);
        Check.good("saved " + Check.times("not ", 7) + "all;", 1);
        Check.bad("saved " + Check.times("not ", 8) + "all;", 5, 34);
        Check.good("saved " + Check.times("not ", 7) + "all and " + Check.times("not ", 7) + "1<2;", 1);
        Check.bad("saved " + Check.times("not ", 7) + "(1)<2;", 5, 34);
        Check.bad("saved " + Check.times("not ", 7) + "[all];", 5, 34);
        Check.good("saved not[not[not[not all or all]]];", 1);
        Check.bad("saved not[not[not[not not all]]];", 5, 22);
        Check.bad("out " + Check.times("min(", 8), 5, 35);
        Check.bad("out " + Check.times("if(", 8), 5, 27);
        String six = Check.times("(", 6);
        String ends = Check.times(")", 6);
        Check.good("out min(1," + six + "1" + ends + ");wear max(" + six + "1" + ends + ",1);", 2);
        Check.bad("out min(1," + six + "(1", 5, 16);
        Check.bad("out max(" + six + "(1", 5, 14);
        Check.good("out if(all," + six + "1" + ends + "," + six + "1" + ends + ");", 1);
        Check.bad("out if(all," + six + "(1", 5, 17);
        Check.bad("out if(all,1," + six + "(1", 5, 19);
        Check.bad("out if([[[[[[[all", 5, 13);
        Check.good("out if([[[[[[all]]]]]],1,1);", 1);
        Check.good("saved[" + Check.times("[", 5) + "(1)<2" + Check.times("]", 6) + ";", 1);
        Check.bad("saved[" + Check.times("[", 5) + "((1)<2", 5, 12);
        Check.good("out " + Check.times("(1)*", 20) + "(1);", 1);
        Check.bad("out " + Check.times("(", 7) + "1(", 1, 12);
        Check.bad("out " + Check.times("(", 7) + "min 1", 1, 15);
    }

    private static void tooMany() {
        StringBuilder boards = new StringBuilder();
        StringBuilder stains = new StringBuilder();
        StringBuilder hearers = new StringBuilder();
        for (char c = 'a'; c < 'g'; c++) {
            if (c < 'f') {
                boards.append("board b").append(c).append(" ribs 1 zinc 1;");
            }
            stains.append("stain s").append(c).append(" deep 1 stuff 1;");
            hearers.append("hearer h").append(c).append(" sin 1 ear 1;");
        }
        Check.good(boards.toString() + stains + hearers, 17);
        Check.bad(boards + "board", 6, boards.length());
        Check.bad(stains + " stain x", 6, stains.length() + 1);
        Check.bad(hearers + "hearer", 6, hearers.length());
        Check.bad("out 1;wear 1;out", 6, 13);
        Check.bad("picks 1;picks", 6, 8);
        Check.bad("saved all;slide all;slide", 6, 20);
        Check.good(Check.times("dry 1;", 80), 80);
        Check.bad(Check.times("dry 1;", 81), 6, 480);
        Check.bad(Check.times("dry 1;", 80) + " wear", 6, 481);
        Check.good(Check.times("dry 1;", 80) + " \n ", 80);
        Check.bad(Check.times("dry 1;", 80) + " out 1;", 6, 481);
        Check.bad(Check.times("dry 1;", 80) + "\nx", 6, 481);
        Check.bad(Check.times("dry 1;", 79) + "dry 1", 1, 479);
        Check.bad(Check.times("dry 1;", 79) + "dry 101;dry 1;", 4, 478);
    }

    private static void firstAlong() {
        Check.bad(B + "stain a3", 2, 28);
        Check.bad("board b ribs 10zinc", 4, 13);
        Check.bad("board a ribs 0 zinc 100;", 4, 13);
        Check.bad("out 1;out foo;", 6, 6);
        Check.bad("water 100 7", 4, 6);
        Check.bad("dry 101", 4, 4);
    }

    private static void whatStays() {
        ZincSermon x = Check.chapel("board a ribs 2 zinc 9;stain s deep 9 stuff 1;hearer h sin 0 ear 0;saved all;water 7;");
        x.seed(77);
        x.weeks(1);
        Check.tape(x, 0, 1, 6);
        x.see();
        long before = Check.all(x);
        Check.tape(x, "water 8;foo");
        Check.due("chapel() with a FAULT", x.chapel(), -1);
        Check.due("all stays", Check.all(x), before);
        Check.due("fault(0)", x.fault(0), 1);
        Check.due("fault(1)", x.fault(1), 8);
        Check.due("fault(2)", x.fault(2), -1);
        Check.due("fault(-1)", x.fault(-1), -1);
        Check.due("undo() still", x.undo(), true);
        x.weeks(2);
        Check.tape(x, "water 8;water 3;");
        Check.due("chapel()", x.chapel(), 2);
        int[] wants = {0, 0, 0, 0, 3, 0, 0, 0, 0, 0, 0, 77};
        for (int what = 0; what < 12; what++) {
            Check.due("has(" + what + ") at first", x.has(what), wants[what]);
        }
        Check.due("fault(0)", x.fault(0), 0);
        Check.due("fault(1)", x.fault(1), -1);
        Check.due("undo() at first", x.undo(), false);
        Check.due("status(1)", x.status(1), 1);
        Check.tape(x, "hearer h sin 0 ear 0;board a ribs 1 zinc 4;stain s deep 3 stuff 1;saved all;");
        x.chapel();
        x.weeks(1);
        Check.due("saved", x.has(7), 1);
        Check.tape(x, "hearer h sin 0 ear 0;board a ribs 1 zinc 8;stain s deep 5 stuff 1;");
        x.chapel();
        Check.due("nobody is saved at first", x.has(7), 0);
        Check.due("WEEK 0", x.has(3), 0);
        Check.due("zinc as told", x.board(0, 1), 8);
        Check.due("deep as told", x.stain(0, 0), 5);
        x.weeks(1);
        Check.due("the TEST of saved has gone", x.has(7), 0);
    }
}
