/** The boundary cases of Terms I: what a CHAPEL's text may be, and its FAULTS. */
final class TextEdges {
    private static final String[] OWN_WORDS = ("board ribs zinc stain deep stuff hearer sin ear out wear saved slide picks water dry"
            + " week rub bone came if or and not all min max").split(" ");
    private static final String BOARD = "board a ribs 1 zinc 1;";
    /** STATEMENTS of each kind, with each kind of place in them; a blank between any two of their pieces. */
    private static final String[] PIECES = ("board a ribs 3 zinc 9 ; stain s deep 5 stuff 1 ; hearer h sin 1 ear 2 ;"
            + " out min ( 1 , rub ) + max ( 2 , bone ) * ( 3 - if ( not [ ribs < 1 or all ] and 2 = 3 , 4 , 5 ) ) / 6 % 7 ;"
            + " wear 1 ; water 5 ; dry 7 ; saved came > sin ; slide not not all ; picks week ;").split(" ");

    private TextEdges() {
    }

    static void run() {
        statements();
        boards();
        stains();
        hearers();
        rules();
        waterAndDry();
        names();
        numbers();
        blanks();
        ownWords();
        firstAlong();
        wrongPieces();
        endsTooSoon();
        tooLong();
        ownWordAsName();
        nameThereAlready();
        numberThatCannotBe();
        openAtOnce();
        notUntilItsFactEnds();
        tooManyOfAKind();
        theEightyFirst();
    }

    private static void statements() {
        Check.terms("I. A CHAPEL is a text: { STATEMENT ; } (80 at most):");
        Check.good("", 0);
        Check.good("dry 1;", 1);
        Check.bad("dry 1", 1, 5);
        Check.bad(";", 1, 0);
        Check.bad("dry 1;;", 1, 6);
        Check.good(Check.times("dry 1;", 79), 79);
        Check.good(Check.times("dry 1;", 80), 80);
        Check.bad(Check.times("dry 1;", 81), 6, 480);
        Check.good(Check.times("dry 1;", 80) + " \n", 80);
        Check.bad(Check.times("dry 1;", 79) + "dry 1", 1, 479);
    }

    /** A STATEMENT's NUMBER: the least and the most can be, one less and one more can't. */
    private static void number(String ahead, int least, int most, String behind) {
        Check.good(ahead + least + behind, 1);
        Check.good(ahead + most + behind, 1);
        Check.good(ahead + String.format("%04d", most) + behind, 1);
        Check.bad(ahead + (most + 1) + behind, 4, ahead.length());
        Check.bad(ahead + 9999 + behind, 4, ahead.length());
        if (least > 0) {
            Check.bad(ahead + (least - 1) + behind, 4, ahead.length());
            Check.bad(ahead + "0000" + behind, 4, ahead.length());
        }
    }

    /** So many of a sort can be; one more is a FAULT at its first byte, whether it is whole or not. */
    private static void most(int most, String word, String behind) {
        StringBuilder text = new StringBuilder();
        for (int k = 0; k < most; k++) {
            text.append(word).append(' ').append((char) ('a' + k)).append(behind);
        }
        Check.good(text.toString(), most);
        Check.bad(text + word + " z" + behind, 6, text.length());
        Check.bad(text + "\n " + word, 6, text.length() + 2);
    }

    private static void boards() {
        Check.terms("board NAME ribs N zinc N (1 .. 9; 1 .. 99; 5 BOARDS);");
        number("board a ribs ", 1, 9, " zinc 1;");
        number("board a ribs 1 zinc ", 1, 99, ";");
        most(5, "board", " ribs 9 zinc 99;");
        ZincSermon x = Check.chapel("board a ribs 1 zinc 99;board b ribs 9 zinc 1;");
        Check.due("board(0, 0)", x.board(0, 0), 1);
        Check.due("board(0, 1)", x.board(0, 1), 99);
        Check.due("board(1, 0)", x.board(1, 0), 9);
        Check.due("board(1, 1)", x.board(1, 1), 1);
    }

    private static void stains() {
        Check.terms("stain NAME deep N stuff N (0 .. 99; 0 .. 9; 6 STAINS);");
        number("stain a deep ", 0, 99, " stuff 1;");
        number("stain a deep 1 stuff ", 0, 9, ";");
        most(6, "stain", " deep 99 stuff 9;");
        ZincSermon x = Check.chapel("stain a deep 0 stuff 9;stain b deep 99 stuff 0;");
        Check.due("stain(0, 0)", x.stain(0, 0), 0);
        Check.due("stain(0, 1)", x.stain(0, 1), 9);
        Check.due("stain(1, 0)", x.stain(1, 0), 99);
        Check.due("stain(1, 1)", x.stain(1, 1), 0);
    }

    private static void hearers() {
        Check.terms("hearer NAME sin N ear N (0 .. 9 each; 6 HEARERS);");
        number("hearer a sin ", 0, 9, " ear 1;");
        number("hearer a sin 1 ear ", 0, 9, ";");
        most(6, "hearer", " sin 9 ear 9;");
        ZincSermon x = Check.chapel("hearer a sin 0 ear 9;hearer b sin 9 ear 0;");
        Check.due("hearer(0, 0)", x.hearer(0, 0), 0);
        Check.due("hearer(0, 1)", x.hearer(0, 1), 9);
        Check.due("hearer(1, 0)", x.hearer(1, 0), 9);
        Check.due("hearer(1, 1)", x.hearer(1, 1), 0);
    }

    private static void rules() {
        Check.terms("out SUM, wear SUM, saved TEST, slide TEST, picks SUM (one each);");
        String[] all = {"out 0;", "wear 1;", "saved all;", "slide all;", "picks 0;"};
        String text = String.join("", all);
        Check.good(text, 5);
        Check.good("picks 0;slide all;saved all;wear 1;out 0;", 5);
        for (String rule : all) {
            Check.good(rule, 1);
            Check.bad(rule + rule, 6, rule.length());
            Check.bad(text + rule, 6, text.length());
            String word = rule.split(" ")[0];
            boolean test = rule.endsWith("all;");
            Check.bad(word + (test ? " 1;" : " all;"), 1, test ? word.length() + 2 : word.length() + 1);
            Check.bad(word + ";", 1, word.length());
        }
    }

    private static void waterAndDry() {
        Check.terms("water N (0 .. 99), dry N (0 .. 100): the last one of each counts (0, 0 without).");
        number("water ", 0, 99, ";");
        number("dry ", 0, 100, ";");
        Check.due("water 8 and 3", Check.chapel("water 8;water 3;").has(4), 3);
        Check.due("water 8 and 0", Check.chapel("water 8;dry 7;water 0;").has(4), 0);
        Check.due("water 99", Check.chapel("water 0;water 99;").has(4), 99);
        Check.due("without water", Check.chapel("dry 7;").has(4), 0);
        Check.due("dry 0 and 100", Check.chapel("dry 0;dry 100;").chance(40), 40);
        Check.due("dry 100 and 0", Check.chapel("dry 100;water 9;dry 0;").chance(40), 0);
        Check.due("without dry", Check.chapel("water 99;").chance(40), 0);
    }

    private static void names() {
        Check.terms("NAMES: 1 to 6 letters, unlike ones (of all sorts).");
        Check.good("board a ribs 1 zinc 1;stain b deep 1 stuff 1;hearer z sin 1 ear 1;", 3);
        Check.good("board abcdef ribs 1 zinc 1;stain uvwxyz deep 1 stuff 1;hearer zzzzzz sin 1 ear 1;", 3);
        Check.bad("board abcdefg ribs 1 zinc 1;", 1, 12);
        Check.bad("stain zzzzzzz deep 1 stuff 1;", 1, 12);
        Check.bad("hearer abcdefghijkl sin 1 ear 1;", 1, 13);
        Check.bad("board ; ribs 1 zinc 1;", 1, 6);
        Check.bad("board 1 ribs 1 zinc 1;", 1, 6);
        Check.bad("board A ribs 1 zinc 1;", 1, 6);
        Check.bad("board aB ribs 1 zinc 1;", 1, 7);
        Check.bad("board a_b ribs 1 zinc 1;", 1, 7);
        Check.bad("board ` ribs 1 zinc 1;", 1, 6);
        Check.bad("board { ribs 1 zinc 1;", 1, 6);
        Check.good("board a ribs 1 zinc 1;board aa ribs 1 zinc 1;stain aaa deep 1 stuff 1;hearer aaaaaa sin 1 ear 1;hearer aaaaa sin 1 ear 1;", 5);
        Check.good("board ab ribs 1 zinc 1;stain ba deep 1 stuff 1;", 2);
    }

    private static void numbers() {
        Check.terms("NUMBERS: 1 to 4 digits.");
        Check.good("water 0;", 1);
        Check.good("water 0009;", 1);
        Check.due("water 0009", Check.chapel("water 0009;").has(4), 9);
        Check.good("out 9999;wear 0000;", 2);
        Check.bad("out 10000;", 1, 8);
        Check.bad("water 00009;", 1, 10);
        Check.bad("water ;", 1, 6);
        Check.bad("water -1;", 1, 6);
        Check.bad("water /;", 1, 6);
        Check.bad("water :;", 1, 6);
    }

    private static void blanks() {
        Check.terms("Blanks (10, 32) are where one likes (words and numbers side by side need one).");
        Check.good(String.join(" ", PIECES), 10);
        Check.good("\n" + String.join("\n", PIECES) + "\n", 10);
        Check.good("  " + String.join(" \n ", PIECES) + "  ", 10);
        Check.good("out(1)+min(2,3)*4;saved[all]or[not[1<2]and 3=4];", 2);
        for (int octet = 0; octet < 256; octet++) {
            if (octet == 10 || octet == 32) {
                Check.good((char) octet + "dry 1;" + (char) octet, 1);
                Check.good("dry" + (char) octet + "1" + (char) octet + ";", 1);
            } else {
                Check.bad((char) octet + "dry 1;", 1, 0);
                Check.bad("dry 1;" + (char) octet, 1, 6);
            }
        }
        Check.bad("dry1;", 1, 3);
        Check.bad("board a ribs 1zinc 1;", 1, 14);
        Check.bad("board a1 ribs 1 zinc 1;", 1, 7);
        Check.bad("boarda ribs 1 zinc 1;", 1, 0);
        Check.bad("board aribs 1 zinc 1;", 1, 12);
        Check.bad("saved 1<2or all;", 1, 9);
        Check.bad("saved not1<2;", 1, 9);
        Check.bad("saved notall;", 1, 6);
        Check.bad("out 1 2;", 1, 6);
        Check.bad("dry 1 2;", 1, 6);
    }

    private static void ownWords() {
        Check.terms("OWN WORDS, which no NAME is: board, ribs, zinc, stain, deep, stuff, hearer, sin, ear, out, wear, saved, slide, picks, water, dry, week, rub, bone, came, if, or, and, not, all, min, max.");
        for (String word : OWN_WORDS) {
            Check.bad("board " + word + " ribs 1 zinc 1;", 1, 6);
            Check.bad("stain " + word + " deep 1 stuff 1;", 1, 6);
            Check.bad("hearer " + word + " sin 1 ear 1;", 1, 7);
            String shorter = word.substring(0, word.length() - 1);
            Check.good("board " + shorter + " ribs 1 zinc 1;", 1);
            if (word.length() < 6) {
                Check.good("hearer " + word + "x sin 1 ear 1;", 1);
                Check.good("stain x" + word + " deep 1 stuff 1;", 1);
            }
        }
    }

    private static void firstAlong() {
        Check.terms("FAULTS, the first along the text:");
        Check.bad("board a ribs 10 foo", 4, 13);
        Check.bad("board a ribs 10zinc", 4, 13);
        Check.bad("board a ribs 10 abcdefg", 4, 13);
        Check.bad("board a ribs foo zinc 100;", 1, 13);
        Check.bad("board a ribs 0 zinc 100;", 4, 13);
        Check.bad(BOARD + "board a ribs 10", 2, 28);
        Check.bad(BOARD + "board a7 ribs", 2, 28);
        Check.bad(BOARD + "board a abcdefg", 2, 28);
        Check.bad("board b ribs 10 zinc 1;board b", 4, 13);
        Check.bad("out 1;out ((((((((1", 6, 6);
        Check.bad("out 1;out2;", 6, 6);
        Check.bad("out ((((((((1;out", 5, 11);
        Check.bad("out 1 ((((((((1", 1, 6);
        Check.bad("water 100;dry 101;", 4, 6);
        Check.bad(Check.times("dry 1;", 79) + "dry 101;dry 1;", 4, 478);
        Check.bad(Check.times("dry 1;", 80) + "dry 101;", 6, 480);
    }

    /** In each place a word, a number and a sign that can't stand there. */
    private static void wrongPieces() {
        Check.terms("1 the first byte with which no CHAPEL goes on (words and numbers whole, at their first byte;");
        Check.bad("boa", 1, 0);
        Check.bad("boards", 1, 0);
        Check.bad("foo 1;", 1, 0);
        Check.bad("ribs 1;", 1, 0);
        Check.bad("1234", 1, 0);
        Check.bad("board a ribz 1", 1, 8);
        Check.bad("board a zinc 1", 1, 8);
        Check.bad("stain a deep 1 stuf 1;", 1, 15);
        Check.bad("out fo;", 1, 4);
        Check.bad("out 1 1234;", 1, 6);
        StringBuilder ahead = new StringBuilder();
        for (int k = 0; k < PIECES.length; k++) {
            Check.bad(ahead + "$", 1, ahead.length());
            Check.bad(ahead + "?;", 1, ahead.length());
            if (!(k > 0 && PIECES[k - 1].matches("board|stain|hearer"))) {
                Check.bad(ahead + "foo 1;", 1, ahead.length());
            }
            Check.bad(ahead + "stain", 1, PIECES[k].matches("board|stain|hearer|out|wear|water|dry|saved|slide|picks")
                    ? ahead.length() + 5 : ahead.length());
            ahead.append(PIECES[k]).append(' ');
        }
    }

    private static void endsTooSoon() {
        Check.terms("at the text's length, if it ends too soon;");
        StringBuilder text = new StringBuilder();
        int statements = 0;
        for (String piece : PIECES) {
            text.append(piece);
            if (piece.equals(";")) {
                statements++;
                Check.good(text.toString(), statements);
            } else {
                Check.bad(text.toString(), 1, text.length());
                Check.bad(text + " \n ", 1, text.length() + 3);
            }
            text.append(' ');
        }
    }

    private static void tooLong() {
        Check.terms("a 7th letter, a 5th digit at itself, whatever may stand there;");
        StringBuilder ahead = new StringBuilder();
        for (int k = 0; k <= PIECES.length; k++) {
            Check.bad(ahead + "abcdefg", 1, ahead.length() + 6);
            Check.bad(ahead + "hearers 1;", 1, ahead.length() + 6);
            Check.bad(ahead + "zzzzzzzzzzzz;", 1, ahead.length() + 6);
            Check.bad(ahead + "12345", 1, ahead.length() + 4);
            Check.bad(ahead + "000000000;", 1, ahead.length() + 4);
            ahead.append(k < PIECES.length ? PIECES[k] : "").append(' ');
        }
    }

    private static void ownWordAsName() {
        Check.terms("an OWN WORD where a NAME must be);");
        Check.bad("board board ribs 1 zinc 1;", 1, 6);
        Check.bad("stain  max deep 1 stuff 1;", 1, 7);
        Check.bad("hearer\nif sin 1 ear 1;", 1, 7);
        Check.bad("board ribs 1 zinc 1;", 1, 6);
    }

    private static void nameThereAlready() {
        Check.terms("2 a NAME that is there already, at its first byte;");
        String[] words = {"board", "stain", "hearer"};
        String[] behind = {" ribs 1 zinc 1;", " deep 1 stuff 1;", " sin 1 ear 1;"};
        for (int k = 0; k < 3; k++) {
            for (int n = 0; n < 3; n++) {
                String one = words[k] + " abcdef" + behind[k];
                Check.bad(one + words[n] + "  abcdef" + behind[n], 2, one.length() + words[n].length() + 2);
                Check.bad(one + words[n] + " abcdef", 2, one.length() + words[n].length() + 1);
                Check.good(one + words[n] + " abcdeg" + behind[n], 2);
                Check.good(one + words[n] + " abcde" + behind[n], 2);
            }
        }
        // The last of all that can be, and the first of all that are.
        String six = "hearer a sin 1 ear 1;hearer b sin 1 ear 1;hearer c sin 1 ear 1;hearer d sin 1 ear 1;hearer e sin 1 ear 1;";
        Check.bad(six + "hearer f sin 1 ear 1;stain f", 2, six.length() + 27);
        Check.bad(six + "hearer a", 2, six.length() + 7);
    }

    private static void numberThatCannotBe() {
        Check.terms("4 a NUMBER that can't be, at its first byte;");
        Check.bad("board a ribs  10 zinc 1;", 4, 14);
        Check.bad("board a ribs 1 zinc 100;", 4, 20);
        Check.bad("stain a deep 100 stuff 1;", 4, 13);
        Check.bad("stain a deep 1 stuff 10;", 4, 21);
        Check.bad("hearer a sin 10 ear 1;", 4, 13);
        Check.bad("hearer a sin 1 ear 10;", 4, 19);
        Check.bad("water 0100;", 4, 6);
        Check.bad("dry\n101;", 4, 4);
        // In a SUM each NUMBER can be.
        Check.good("out 9999;wear 0;picks 100;", 3);
    }

    private static void openAtOnce() {
        Check.terms("5 the 8th ( [ not that is open at once");
        Check.good("out " + Check.times("(", 7) + "1" + Check.times(")", 7) + ";", 1);
        Check.bad("out " + Check.times("(", 8) + "1" + Check.times(")", 8) + ";", 5, 11);
        Check.bad("out " + Check.times("(", 9), 5, 11);
        Check.good("saved " + Check.times("[", 7) + "all" + Check.times("]", 7) + ";", 1);
        Check.bad("saved " + Check.times("[", 8) + "all" + Check.times("]", 8) + ";", 5, 13);
        Check.good("slide " + Check.times("not ", 7) + "all;", 1);
        Check.bad("slide " + Check.times("not ", 8) + "all;", 5, 34);
        Check.bad("saved " + Check.times("not ", 7) + "[all];", 5, 34);
        Check.bad("saved " + Check.times("not ", 7) + "(1)<2;", 5, 34);
        Check.bad("saved " + Check.times("[", 7) + "not all", 5, 13);
        Check.bad("saved " + Check.times("[", 7) + "1<(2)", 5, 15);
        Check.good("saved not[not[not[not 1<2]]];", 1);
        Check.bad("saved not[not[not[not(1)<2]]];", 5, 21);
        String six = Check.times("(", 6);
        String ends = Check.times(")", 6);
        String[] ahead = {"out min(", "out min(1,", "out max(", "out max(1,", "out if(all,", "out if(all,1,", "out if(1<", "out if("};
        String[] behind = {",1);", ");", ",1);", ");", ",1);", ");", ",1,1);", "<1,1,1);"};
        for (int k = 0; k < ahead.length; k++) {
            Check.good(ahead[k] + six + "1" + ends + behind[k], 1);
            Check.bad(ahead[k] + six + "(1" + ends + ")" + behind[k], 5, ahead[k].length() + 6);
            Check.bad(ahead[k] + six + "min(1,1)" + ends + behind[k], 5, ahead[k].length() + 9);
            Check.bad(ahead[k] + six + "max (1,1)" + ends + behind[k], 5, ahead[k].length() + 10);
            Check.bad(ahead[k] + six + "if(all,1,1)" + ends + behind[k], 5, ahead[k].length() + 8);
        }
        // At once: what is closed again isn't open.
        Check.good("out " + Check.times("(1)*", 30) + "(1);", 1);
        Check.good("out " + Check.times("min(1,2)+", 30) + "(1);", 1);
        Check.good("saved " + Check.times("[all]and ", 30) + "all;", 1);
        Check.good("out (" + six + "1" + ends + "+" + six + "1" + ends + ");", 1);
        // Where it can't stand at all it is the other FAULT.
        Check.bad("out (" + six + "[", 1, 11);
        Check.bad("out (" + six + "1(", 1, 12);
        Check.bad("out (" + six + "min 1", 1, 15);
    }

    private static void notUntilItsFactEnds() {
        Check.terms("(not until its FACT ends), at it;");
        String seven = Check.times("not ", 7);
        Check.good("saved " + seven + "all and " + seven + "all or " + seven + "1<2 and " + seven + "1<2;", 1);
        Check.good("saved " + seven + "1<2 and (1)<2;", 1);
        Check.good("saved " + seven + "all and[all];", 1);
        Check.bad("saved " + seven + "1<(2);", 5, 36);
        Check.bad("saved " + seven + "1+2*(3)<2;", 5, 38);
        Check.good("saved not[" + Check.times("not ", 5) + "all and " + Check.times("not ", 5) + "all];", 1);
        Check.bad("saved not[" + Check.times("not ", 5) + "all and " + Check.times("not ", 6) + "all];", 5, 58);
    }

    private static void tooManyOfAKind() {
        Check.terms("6 one too many of a kind of STATEMENT (a second out, wear, saved, slide, picks, too),");
        Check.bad("out 1;water 1; out 2;", 6, 15);
        Check.bad("wear 1;wear 1;", 6, 7);
        Check.bad("saved all;\nsaved all;", 6, 11);
        Check.bad("slide all;slide", 6, 10);
        Check.bad("picks 1;picks;", 6, 8);
        Check.good("water 1;water 1;dry 1;dry 1;water 1;", 5);
        most(5, "board", " ribs 1 zinc 1;");
        most(6, "stain", " deep 1 stuff 1;");
        most(6, "hearer", " sin 1 ear 1;");
    }

    private static void theEightyFirst() {
        Check.terms("or the 81st STATEMENT (whatever it is), at its first byte.");
        String eighty = Check.times("dry 1;", 80);
        String[] whatever = {"dry 1;", "water 1;", "water 100;", "board a ribs 1 zinc 1;", "board", "stain s deep 100", "hearer if",
            "out 1;", "out ((((((((1", "wear;", "saved all;", "slide", "picks 1;", "foo;", "abcdefgh", "12345", ";", "$"};
        for (String one : whatever) {
            Check.bad(eighty + one, 6, 480);
            Check.bad(eighty + " \n" + one, 6, 482);
        }
        // Of all kinds, too: 17 that bear a NAME, 5 of which there is one each, and water.
        StringBuilder all = new StringBuilder("out 1;wear 1;saved all;slide all;picks 1;");
        for (char c = 'a'; c < 'g'; c++) {
            all.append(c < 'f' ? "board b" + c + " ribs 1 zinc 1;" : "");
            all.append("stain s").append(c).append(" deep 1 stuff 1;hearer h").append(c).append(" sin 1 ear 1;");
        }
        all.append(Check.times("water 1;", 58));
        Check.good(all.toString(), 80);
        Check.bad(all + "water 1;", 6, all.length());
    }
}
