import java.util.Set;

/** The boundary cases of Terms I: what SUMS and TESTS are, and what they give. */
final class SumEdges {
    private static final Set<String> ANYWHERE = Set.of("ribs", "zinc", "deep", "stuff", "water", "week");
    private static final Set<String> IN_STROKES = Set.of("rub", "bone");
    private static final Set<String> OF_HEARERS = Set.of("sin", "ear", "came");
    private static final String[] WORDS = ("board ribs zinc stain deep stuff hearer sin ear out wear saved slide picks water dry"
            + " week rub bone came or and foo").split(" ");

    private SumEdges() {
    }

    static void run() {
        grammarOfSums();
        wordsAsParts();
        grammarOfParts();
        choice();
        asDeepAsCanBe();
        grammarOfTests();
        orderOfTests();
        signs();
        boardAndStain();
        waterAndWeek();
        rub();
        bone();
        hearersAndCame();
        fromTheLeft();
        wholeNumbers();
        byZero();
        limits();
    }

    /** What a SUM is, 0 .. 99: so much comes out by a stroke of a STAIN 99 deep. */
    private static void sum(String sum, int want) {
        ZincSermon x = Check.chapel("board b ribs 3 zinc 5;stain s deep 99 stuff 4;water 6;out " + sum + ";");
        Check.due("the SUM " + sum, 99 - x.strokes(0, 0, 1), want);
    }

    private static void test(String test, boolean want) {
        sum("if(" + test + ",1,2)", want ? 1 : 2);
    }

    private static void grammarOfSums() {
        Check.terms("SUM: PRODUCT { + or - PRODUCT }. PRODUCT: PART { * or / or % PART }.");
        sum("7", 7);
        sum("7+1-2", 6);
        sum("7*2/7%3", 2);
        sum("1+2*3-4/2+9%5", 9);
        String[] signs = {"+", "-", "*", "/", "%"};
        for (String sign : signs) {
            Check.bad("out " + sign + "1;", 1, 4);
            Check.bad("out 1" + sign + ";", 1, 6);
            for (String other : signs) {
                Check.bad("out 1" + sign + other + "1;", 1, 6);
                Check.good("out 1" + sign + "2" + other + "3;", 1);
            }
        }
        Check.bad("out 1^2;", 1, 5);
        Check.bad("out 1&2;", 1, 5);
        // As long as a tape can be.
        sum(Check.times("1+", 740) + "1", 99);
        sum("9999" + Check.times("-9", 700) + "-" + (9999 - 6300 - 8), 8);
    }

    private static void wordsAsParts() {
        Check.terms("PART: N; ribs; zinc; deep; stuff; water; week; in out, wear: rub; bone; in saved, slide: sin; ear; came;");
        for (String word : WORDS) {
            boolean anywhere = ANYWHERE.contains(word);
            boolean inStrokes = anywhere || IN_STROKES.contains(word);
            boolean ofHearers = anywhere || OF_HEARERS.contains(word);
            part("out ", word, ";", inStrokes);
            part("wear ", word, ";", inStrokes);
            part("picks ", word, ";", anywhere);
            part("saved ", word, "=1;", ofHearers);
            part("slide ", word, "=1;", ofHearers);
            part("out 1+2*(", word, ");", inStrokes);
            part("wear if(", word, "=1,1,1);", inStrokes);
            part("picks max(1,", word, ");", anywhere);
            part("saved not[1<", word, "];", ofHearers);
            part("slide if(all,1,", word, ")=1;", ofHearers);
        }
        // What may stand goes by the STATEMENT that it is in, not by the one ahead.
        Check.bad("out rub;picks rub;", 1, 14);
        Check.bad("saved sin=1;out sin;", 1, 16);
        Check.bad("wear bone;slide bone=1;", 1, 16);
        Check.bad("slide came=1;wear came;", 1, 18);
        sum("9999-9900", 99);
        sum("0", 0);
    }

    private static void part(String ahead, String word, String behind, boolean may) {
        if (may) {
            Check.good(ahead + word + behind, 1);
        } else {
            Check.bad(ahead + word + behind, 1, ahead.length());
        }
    }

    private static void grammarOfParts() {
        Check.terms("( SUM ) ; min ( SUM , SUM ) ; max ( SUM , SUM ) ; if ( TEST , SUM , SUM )");
        sum("(7)", 7);
        sum("((1+2))*3", 9);
        sum("min(3,8)", 3);
        sum("min(8,3)", 3);
        sum("max(3,8)", 8);
        sum("max(8,3)", 8);
        sum("min(5,5)+max(5,5)", 10);
        sum("9+min(0-3,2)", 6);
        sum("9+max(0-3,0-2)", 7);
        sum("max(min(9,7),min(8,6))", 7);
        sum("min(1+2*3,2*2*2)", 7);
        Check.bad("out ();", 1, 5);
        Check.bad("out (1;", 1, 6);
        Check.bad("out 1);", 1, 5);
        Check.bad("out (1,2);", 1, 6);
        Check.bad("out (1<2);", 1, 6);
        Check.bad("out [1];", 1, 4);
        for (String word : new String[] {"min", "max"}) {
            Check.bad("out " + word + ";", 1, 7);
            Check.bad("out " + word + " 1;", 1, 8);
            Check.bad("out " + word + "[1,2];", 1, 7);
            Check.bad("out " + word + "();", 1, 8);
            Check.bad("out " + word + "(1);", 1, 9);
            Check.bad("out " + word + "(1,);", 1, 10);
            Check.bad("out " + word + "(1,2;", 1, 11);
            Check.bad("out " + word + "(1,2,3);", 1, 11);
            Check.bad("out " + word + "(all,2);", 1, 8);
        }
        Check.bad("out if;", 1, 6);
        Check.bad("out if all,1,2;", 1, 7);
        Check.bad("out if(1,2,3);", 1, 8);
        Check.bad("out if(all);", 1, 10);
        Check.bad("out if(all,1);", 1, 12);
        Check.bad("out if(all,1,2,3);", 1, 14);
        Check.bad("out if(all,all,2);", 1, 11);
        Check.bad("out if(all,1,2;", 1, 14);
    }

    private static void choice() {
        Check.terms("(the first SUM where the TEST holds, else the second one).");
        sum("if(all,1,2)", 1);
        sum("if(not all,1,2)", 2);
        sum("if(1<2,3+4,5)", 7);
        sum("if(2<2,3,4+5)", 9);
        sum("if(all,if(not all,1,2),3)", 2);
        sum("if(not all,1,if(all,2,3))", 2);
        sum("if(if(all,1,2)=1,3,4)", 3);
        sum("if(all,1,2)+if(not all,10,20)", 21);
        sum("if(all,7,1/0)", 7);
    }

    /** Seven that are open, and in each a value of every kind waits for what is inside. */
    private static void asDeepAsCanBe() {
        Check.terms("if ( TEST , SUM , SUM ) (the first SUM where the TEST holds, else the second one). TEST: BOTH { or BOTH }.");
        String inFirst = "1";
        String inLast = "5";
        for (int k = 0; k < 7; k++) {
            inFirst = "if(1=2 or all and 10=9+1*" + inFirst + ",1,2)";
            inLast = "if(1=2,1+2*3,4+1*" + inLast + ")";
        }
        sum("2+3*" + inFirst, 5);
        sum("2+3*" + inFirst.replace("9+1*1", "9+1*2"), 8);
        sum("60-1*" + inLast, 60 - 5 - 7 * 4);
        ZincSermon x = Check.chapel("board b ribs 1 zinc 9;stain s deep 9 stuff 0;hearer g sin 1 ear 0;hearer h sin 2 ear 0;"
                + "saved 1=2 or all and 10=9+1*" + inFirst.replace("9+1*1", "9+1*sin") + ";");
        Check.due("saved(1)", x.saved(1), 1);
    }

    private static void grammarOfTests() {
        Check.terms("TEST: BOTH { or BOTH }. BOTH: FACT { and FACT }. FACT: not FACT; [ TEST ] ; all; SUM SIGN SUM,");
        test("all", true);
        test("not all", false);
        test("not not all", true);
        test("not not not all", false);
        test("[all]", true);
        test("[[not all]]", false);
        test("1+1=2", true);
        test("(1)<(2)", true);
        Check.bad("saved ;", 1, 6);
        Check.bad("saved [];", 1, 7);
        Check.bad("saved [all;", 1, 10);
        Check.bad("saved all];", 1, 9);
        Check.bad("saved (all);", 1, 7);
        Check.bad("saved [1]<2;", 1, 8);
        Check.bad("saved not;", 1, 9);
        Check.bad("saved or;", 1, 6);
        Check.bad("saved and;", 1, 6);
        Check.bad("saved all or;", 1, 12);
        Check.bad("saved all and;", 1, 13);
        Check.bad("saved all all;", 1, 10);
        Check.bad("saved all not all;", 1, 10);
        Check.bad("saved all or or all;", 1, 13);
        Check.bad("saved all and or all;", 1, 14);
        Check.bad("saved all=1;", 1, 9);
        Check.bad("saved 1;", 1, 7);
        Check.bad("saved 1+2;", 1, 9);
    }

    private static void orderOfTests() {
        Check.terms("TEST: BOTH { or BOTH }. BOTH: FACT { and FACT }. FACT: not FACT;");
        String yes = "all";
        String no = "not all";
        test(yes + " or " + yes, true);
        test(yes + " or " + no, true);
        test(no + " or " + yes, true);
        test(no + " or " + no, false);
        test(yes + " and " + yes, true);
        test(yes + " and " + no, false);
        test(no + " and " + yes, false);
        test(no + " and " + no, false);
        test(yes + " or " + yes + " and " + no, true);
        test("[" + yes + " or " + yes + "]and " + no, false);
        test(no + " and " + no + " or " + yes, true);
        test(no + " and[" + no + " or " + yes + "]", false);
        test(no + " or " + no + " or " + yes, true);
        test(yes + " and " + yes + " and " + no, false);
        test("not 1<2 or all", true);
        test("not[1<2 or all]", false);
        test("not 1<2 and not all", false);
        test("not[1<2 and not all]", true);
    }

    private static void signs() {
        Check.terms("SIGN < or > or = .");
        test("1<2", true);
        test("2<2", false);
        test("3<2", false);
        test("1>2", false);
        test("2>2", false);
        test("3>2", true);
        test("1=2", false);
        test("2=2", true);
        test("3=2", false);
        test("0-1<0", true);
        test("0-2>0-1", false);
        Check.bad("saved 1<=2;", 1, 8);
        Check.bad("saved 1==2;", 1, 8);
        Check.bad("saved 1<>2;", 1, 8);
        Check.bad("saved 1<2<3;", 1, 9);
        Check.bad("saved 1!2;", 1, 7);
        Check.bad("saved <2;", 1, 6);
        Check.bad("saved 1<;", 1, 8);
    }

    private static void boardAndStain() {
        Check.terms("(Of a BOARD how many ribs, how much zinc is left; of a STAIN how deep it is, its stuff;");
        sum("ribs", 3);
        sum("zinc", 5);
        sum("deep", 99);
        sum("stuff", 4);
        // zinc 9 > 5 > 1 > 0, deep 50 > 41 > 36 > 35 > 35
        ZincSermon x = Check.chapel("board b ribs 9 zinc 9;stain s deep 50 stuff 0;out zinc;wear 4;");
        int[] left = {50, 41, 36, 35, 35, 35};
        for (int n = 0; n < left.length; n++) {
            Check.due("strokes of zinc, " + n, x.strokes(0, 0, n), left[n]);
        }
        // 9 > 5 > 3 > 2 > 1 (half of it, at least 1), then 0
        x = Check.chapel("board b ribs 9 zinc 9;stain s deep 9 stuff 0;out max(1,deep/2);");
        int[] halves = {9, 5, 3, 2, 1, 0, 0};
        for (int n = 0; n < halves.length; n++) {
            Check.due("strokes of deep, " + n, x.strokes(0, 0, n), halves[n]);
        }
        x = Check.chapel("board a ribs 1 zinc 1;board b ribs 9 zinc 99;stain s deep 99 stuff 0;stain t deep 50 stuff 9;out ribs*10+stuff;");
        Check.due("ribs 1, stuff 0", x.strokes(0, 0, 1), 89);
        Check.due("ribs 9, stuff 0", x.strokes(1, 0, 1), 9);
        Check.due("ribs 1, stuff 9", x.strokes(0, 1, 1), 31);
    }

    private static void waterAndWeek() {
        Check.terms("the water; the WEEK;");
        sum("water", 6);
        sum("week", 0);
        ZincSermon x = Check.chapel("board b ribs 1 zinc 99;stain s deep 99 stuff 0;out water*10+week;water 2;");
        Check.due("WEEK 0, water 2", x.weeks(1), 20);
        Check.due("WEEK 1, water 2", x.weeks(1), 21);
        x.pour(0);
        Check.due("WEEK 2, water 0", x.weeks(1), 2);
        x = Check.chapel("board b ribs 1 zinc 99;stain s deep 99 stuff 0;out week/10;");
        Check.on(x, Check.sealed(3, 231, 99, 99, 99));
        Check.due("WEEK 999", x.sermon(0, 0, 1), 99);
        x = Check.chapel("board b ribs 1 zinc 99;stain s deep 99 stuff 0;out water;water 99;");
        Check.due("water 99", x.strokes(0, 0, 1), 0);
    }

    private static void rub() {
        Check.terms("the number of the stroke in its SERMON, 1 and on;");
        sum("rub", 1);
        ZincSermon x = Check.chapel("board b ribs 3 zinc 99;stain s deep 99 stuff 0;out rub;wear rub;");
        Check.due("strokes(0, 0, 3)", x.strokes(0, 0, 3), 99 - 6);
        Check.due("a SERMON of 3", x.sermon(0, 0, 3), 6);
        Check.due("zinc", x.board(0, 1), 99 - 6);
        Check.due("the next one begins anew", x.sermon(0, 0, 2), 3);
        Check.due("so does a WEEK's", x.weeks(2), 12);
        x = Check.chapel("board b ribs 3 zinc 9;stain s deep 1 stuff 0;wear 0;out if(rub=40,1,0);");
        Check.due("the 39th", x.strokes(0, 0, 39), 1);
        Check.due("the 40th", x.strokes(0, 0, 40), 0);
        x = Check.chapel("board b ribs 3 zinc 9;stain s deep 1 stuff 0;wear 0;out if(rub=99,1,0);");
        Check.due("the 99th", x.needed(0, 0, 0), 99);
    }

    private static void bone() {
        Check.terms("1 if no zinc is left ahead of it, else 0;");
        // zinc 2 > 1 > 0: the third stroke is the first one with none ahead of it.
        ZincSermon x = Check.chapel("board b ribs 3 zinc 2;stain s deep 99 stuff 0;out bone*10;");
        int[] left = {99, 99, 99, 89, 79};
        for (int n = 0; n < left.length; n++) {
            Check.due("strokes of bone, " + n, x.strokes(0, 0, n), left[n]);
        }
        // bone in wear: 1 zinc goes only while some is left; it stays 0.
        x = Check.chapel("board b ribs 3 zinc 2;stain s deep 9 stuff 0;wear if(bone=0,1,0);");
        x.sermon(0, 0, 4);
        Check.due("zinc", x.board(0, 1), 0);
    }

    private static void hearersAndCame() {
        Check.terms("of a HEARER sin, ear; how much came out by the SERMON.)");
        String text = "board b ribs 2 zinc 9;stain s deep 13 stuff 4;hearer g sin 0 ear 9;hearer h sin 9 ear 0;hearer i sin 5 ear 5;out 3;saved ";
        Check.due("sin=0", Check.chapel(text + "sin=0;").saved(1), 1);
        Check.due("sin=9", Check.chapel(text + "sin=9;").saved(1), 2);
        Check.due("ear=0", Check.chapel(text + "ear=0;").saved(1), 2);
        Check.due("ear=9", Check.chapel(text + "ear=9;").saved(1), 1);
        Check.due("sin=ear", Check.chapel(text + "sin=ear;").saved(1), 4);
        Check.due("came=6", Check.chapel(text + "came=6;").saved(1), 7);
        Check.due("not came=6", Check.chapel(text + "not came=6;").saved(1), 0);
        // 6, 6, then 1: not what came out in all.
        Check.due("came=1, WEEK 2", Check.chapel(text + "came=1;").saved(2), 0);
        Check.due("came=1, WEEK 3", Check.chapel(text + "came=1;").saved(3), 7);
        Check.due("came=0", Check.chapel(text.replace("out 3", "out 0") + "came=0;").saved(1), 7);
        Check.due("came=1 of a SERMON that ends there", Check.chapel(text.replace("deep 13", "deep 1") + "came=1;").saved(1), 7);
    }

    private static void fromTheLeft() {
        Check.terms("All from the left on;");
        sum("20-5-3", 12);
        sum("20-(5-3)", 18);
        sum("20-5+3", 18);
        sum("8/4/2", 1);
        sum("8/(4/2)", 4);
        sum("7/2*2", 6);
        sum("2*7/2", 7);
        sum("17%10%4", 3);
        sum("17%(10%4)", 1);
        sum("2*3%4", 2);
        sum("9%5*2", 8);
        sum("1+2*3", 7);
    }

    private static void wholeNumbers() {
        Check.terms("/ gives the greatest whole number not above, % what is left (a less b times that);");
        sum("7/2", 3);
        sum("6/2", 3);
        sum("1/2", 0);
        sum("0/2", 0);
        sum("10+(0-7)/2", 6);
        sum("10+(0-6)/2", 7);
        sum("10+(0-1)/9999", 9);
        sum("10+7/(0-2)", 6);
        sum("10+6/(0-2)", 7);
        sum("10+(0-7)/(0-2)", 13);
        sum("10+(0-1)/(0-2)", 10);
        sum("7%2", 1);
        sum("6%2", 0);
        sum("1%2", 1);
        sum("10+(0-7)%2", 11);
        sum("10+(0-6)%2", 10);
        sum("10+(0-7)%5", 13);
        sum("10+7%(0-2)", 9);
        sum("10+7%(0-5)", 7);
        sum("10+6%(0-2)", 10);
        sum("10+(0-7)%(0-2)", 9);
        sum("10+(0-7)%(0-5)", 8);
    }

    private static void byZero() {
        Check.terms("by 0 both give 0;");
        sum("5+7/0", 5);
        sum("5+7%0", 5);
        sum("5+(0-7)/0", 5);
        sum("5+(0-7)%0", 5);
        sum("5+0/0+0%0", 5);
        sum("5+7/(3-3)*2", 5);
        sum("5+7%(ribs-3)", 5);
        sum("5+7/bone", 5);
    }

    /** 999*1001 is 10 to the 6 less 1. */
    private static void limits() {
        Check.terms("each result above 10 to the 6 is that, below -10 to the 6 likewise.");
        sum("999*1001+1-999*1001", 1);
        sum("999*1001+2-999*1001", 1);
        sum("999*1001+9999-999*1001", 1);
        sum("1000*1000-999*1001", 1);
        sum("1001*1000-999*1001", 1);
        sum("9999*9999-999*1001", 1);
        sum("9999*9999*(9999*9999)-999*1001", 1);
        sum("5+(0-999*1001-1+999*1001)", 4);
        sum("5+(0-999*1001-2+999*1001)", 4);
        sum("5+(0-999*1001-9999+999*1001)", 4);
        sum("5+((0-1001)*1000+999*1001)", 4);
        sum("5+((0-9999*9999)*(9999*9999)+999*1001)", 4);
        sum("(0-9999*9999)*(0-9999*9999)-999*1001", 1);
        // Each result, not the last one alone.
        sum("1000*1000+9-9-999*1001", 0);
        sum("1000*2000/1000/100", 10);
        sum("9999*9999%9999-50", 50);
        test("1000*1000=1000*1000+1", true);
        test("0-1000*1000=0-1000*1000-1", true);
        test("1000*1000>999*1001", true);
    }
}
