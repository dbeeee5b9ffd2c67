/** Promise 5, clock: "strike" "rack" E, and VALUES. A rack's VALUE is seen as told(clock, 8), 0 to 24. */
public final class Promise05RackTest {
    private static final String TWO_TO_31 = "64*64*64*64*64*2";

    private Promise05RackTest() {
    }

    public static void main(String[] args) {
        numbers();
        wordsOfARack();
        fromTheLeft();
        productsFirst();
        brackets();
        mostOpen();
        choices();
        leastAndMost();
        thirtyTwoBits();
        cut();
        byNought();
        longest();
        cantStandThere();
        Due.end();
    }

    private static void value(String e, int due) {
        Due.is(e, Due.with("strike rack " + e + ";").told(0, 8), due);
    }

    private static void holds(String test) {
        value("if(" + test + ",1,2)", 1);
    }

    private static void faulty(String e, int fault, int place) {
        Due.faulty("strike rack " + e + ";", fault, 12 + place);
    }

    // U: N (0 to 99)
    private static void numbers() {
        value("0", 0);
        value("0007", 7);
        holds("99=10*10-1");
        faulty("100", 2, 0);
        faulty("1+100", 2, 2);
        faulty("4294967296", 2, 0);
        faulty("-1", 1, 0);
        faulty("hour*(7-100)", 2, 8);
    }

    // "hour", "date", "month", as the next hour will show them
    private static void wordsOfARack() {
        ClockKeeper k = new ClockKeeper();
        Due.pass(k, 31 * 1440);
        Due.clock(k, 0, 0, "strike rack hour;");
        Due.clock(k, 0, 0, "strike rack date*10;");
        Due.clock(k, 0, 0, "strike rack month*5;");
        Due.is("hour", k.told(0, 8), 1);
        Due.is("date", k.told(1, 8), 10);
        Due.is("month", k.told(2, 8), 10);
        k.wait(23 * 60 - 1);
        Due.is("hour 23", k.told(0, 8), 23);
        k.wait(1);
        Due.is("hour 0", k.told(0, 8), 0);
        Due.is("date behind midnight", k.told(1, 8), 20);
        faulty("Hour", 1, 0);
        faulty("hours", 1, 0);
        faulty("day", 1, 0);
        faulty("h", 1, 0);
        faulty("hourdate", 1, 0);
        faulty("hour date", 1, 5);
        faulty("hour 1", 1, 5);
        faulty("1 hour", 1, 2);
    }

    // E: T { + or - T }. T: U { * or / or % U }: from the left to the right
    private static void fromTheLeft() {
        value("20-3-2", 15);
        value("20-3+2", 19);
        value("1+2-3+4", 4);
        value("60/4/3", 5);
        value("60/4*3/9", 5);
        value("50%7*3", 3);
        value("3*50%7", 3);
        value("99%50%30", 19);
    }

    private static void productsFirst() {
        value("1+2*3", 7);
        value("20-2*3", 14);
        value("2*3+4*4", 22);
        value("20-9/2-9%2", 15);
    }

    // "(" E ")"
    private static void brackets() {
        value("(1+2)*3", 9);
        value("20-(3-2)", 19);
        value("2*(3+(4-1))", 12);
        value("((((7))))", 7);
        faulty("()", 1, 1);
        faulty("(1", 1, 2);
        faulty("1)", 1, 1);
        faulty("(1))", 1, 3);
        faulty("(1 2)", 1, 3);
        faulty("2(3)", 1, 1);
        faulty("(1,2)", 1, 2);
    }

    // 3 "a 9th "(" that is open at one time"
    private static void mostOpen() {
        value("((((((((9))))))))", 9);
        value("((((((((9))))))))+((((((((8))))))))", 17);
        value("(1)+(1)+(1)+(1)+(1)+(1)+(1)+(1)+(1)+(1)", 10);
        value("(((((((if(1=1,3,4))))))))", 3);
        value("if(if(if(if(if(if(if(if(1<2,1,0)<2,1,0)<2,1,0)<2,1,0)<2,1,0)<2,1,0)<2,1,0)<2,5,0)", 5);
        value("if(0=1,0,if(0=1,0,if(0=1,0,if(0=1,0,if(0=1,0,if(0=1,0,if(0=1,0,if(0=1,0,1+2*3))))))))", 7);
        // each of 8 brackets leaves as many values waiting as it can; 3 is twice itself and 1 more for seven times
        value("0+if(0=1,0," + "1+2*if(0=1,0,".repeat(7) + "3" + "))))))))/50", 511 / 50);
        faulty("(((((((((9)))))))))", 3, 8);
        faulty("((((((((((9))))))))))", 3, 8);
        faulty("((((((((1+(2)))))))))", 3, 10);
        faulty("(((((((((", 3, 8);
        faulty("((((((((if(1=1,1,1)))))))))", 3, 10);
        faulty("((((((((  if  (", 3, 14);
        faulty("(((((((if(1=1,(3),4))))))))", 3, 14);
        faulty("((((((((1)+(1)))))))", 1, 20);
        faulty("((((((((1(", 1, 9);
        faulty("((((((((if 1", 1, 11);
        Due.faulty("strike rack ((((((((1))))))));strike rack (((((((((1)))))))));", 3, 50);
    }

    // "if" "(" E R E "," E "," E ")"; R: <, > or =
    private static void choices() {
        value("if(1<2,3,4)", 3);
        value("if(2<2,3,4)", 4);
        value("if(3<2,3,4)", 4);
        value("if(1>2,3,4)", 4);
        value("if(2>2,3,4)", 4);
        value("if(3>2,3,4)", 3);
        value("if(1=2,3,4)", 4);
        value("if(2=2,3,4)", 3);
        value("if(3=2,3,4)", 4);
        value("if(0-1<0,3,4)", 3);
        value("if(1+1=2*1,2+3,9)*2", 10);
        value("if(1=1,if(1=2,5,6),7)", 6);
        value("10-if(1=2,5,6)-if(1=1,1,2)", 3);
        faulty("if(1,2,3)", 1, 4);
        faulty("if(1<2<3,4,5)", 1, 6);
        faulty("if(1<=2,3,4)", 1, 5);
        faulty("if(1<2,3)", 1, 8);
        faulty("if(1<2,3,4,5)", 1, 10);
        faulty("if(1<2,,4)", 1, 7);
        faulty("if(<2,3,4)", 1, 3);
        faulty("if 1<2", 1, 3);
        faulty("if", 1, 2);
        faulty("iff(1<2,3,4)", 1, 0);
        faulty("1<2", 1, 1);
        faulty("(1=2)", 1, 2);
    }

    // "a rack: its VALUE, 0 to 24: less is 0, more 24"
    private static void leastAndMost() {
        value("0-1", 0);
        value("0", 0);
        value("1", 1);
        value("23", 23);
        value("24", 24);
        value("25", 24);
        value("99*99*99*99", 24);
        value("0-99*99*99*99", 0);
        value(TWO_TO_31, 0);
        value(TWO_TO_31 + "-1", 24);
    }

    // "VALUES are whole numbers of 32 bits that wrap"
    private static void thirtyTwoBits() {
        holds(TWO_TO_31 + "<0");
        holds(TWO_TO_31 + "-1>0");
        holds(TWO_TO_31 + "-1+1<0");
        holds("0-" + TWO_TO_31 + "<0");
        holds(TWO_TO_31 + "*2=0");
        holds(TWO_TO_31 + "*2+7=7");
        // 99 to the 5th is 9,509,900,499, by 2 to the 32nd 919,965,907 is left
        holds("99*99*99*99*99/99=(9*99+38)*10*10*10*10+25*10*10+84");
        holds("99*99*99*99*99%10=7");
    }

    // "/ and % cut as in whole numbers"
    private static void cut() {
        value("7/2", 3);
        value("7%2", 1);
        holds("(0-7)/2=0-3");
        holds("(0-7)%2=0-1");
        holds("7/(0-2)=0-3");
        holds("7%(0-2)=1");
        holds("(0-7)/(0-2)=3");
        holds("(0-7)%(0-2)=0-1");
        holds("0/5=0");
        holds("1/2=0");
        holds("(0-1)/2=0");
        holds(TWO_TO_31 + "/(0-1)<0");
        holds(TWO_TO_31 + "%(0-1)=0");
    }

    // "by 0 both are 0"
    private static void byNought() {
        value("5/0+7", 7);
        value("5%0+7", 7);
        value("0/0+7", 7);
        value("0%0+7", 7);
        value("20/(hour-1)+3", 3);
        value("20%(hour-1)+3", 3);
    }

    // a TEXT of 400 bytes is all steps of one E
    private static void longest() {
        String sum = "strike rack 1" + "+0".repeat(182) + "+2+2+2+2+";
        Due.is("its length", sum.length(), 386);
        Due.is("of 400 bytes", Due.with(sum + "0*0*0*0*0*0+5;").told(0, 8), 14);
        String product = "strike rack 1" + "*1".repeat(192) + "*7;";
        Due.is("its length", product.length(), 400);
        Due.is("of 400 bytes", Due.with(product).told(0, 8), 7);
    }

    // FAULT 1 in an E, at its first byte
    private static void cantStandThere() {
        faulty("", 1, 0);
        faulty("+1", 1, 0);
        faulty("1+", 1, 2);
        faulty("1+*2", 1, 2);
        faulty("1--2", 1, 2);
        faulty("1*/2", 1, 2);
        faulty("1%", 1, 2);
        faulty("1 & 2", 1, 2);
        faulty("1,2", 1, 1);
        faulty("1=", 1, 1);
        faulty("(1+2;", 1, 4);
        faulty("[1]", 1, 0);
    }
}
