/** Terms I and II: the boundaries of a SUM's worth, of a TEST, of slow and of stands. */
public final class BoundsSumTest {
    private static final String TOWN = "room a door 9 floor 99;room b door 9 floor 99;way a b takes 7;"
        + "person p strong 4 chair 30 wide 2 at a;person q strong 90 chair 5 wide 3 at a;";
    private static final String MILLION = "1000*1000";

    public static void main(String[] args) {
        choices();
        fromTheLeft();
        quotients();
        byNothing();
        aboveAMillion();
        belowAMillion();
        limitsOnTheWay();
        comparisons();
        facts();
        givenToSlow();
        givenToStands();
        slowRange();
        standsRange();
        Check.finish();
    }

    /** How a whole number is told, which a NUMBER of four digits may not reach. */
    private static String told(int n) {
        return n < 0 ? "(0-(" + told(-n) + "))" : n / 1000 + "*1000+" + n % 1000;
    }

    /** What slow adds to a way of 7 minutes. */
    private static int slow(String sum) {
        return Check.made(TOWN + "slow " + sum + ";").takes(0, 1, 0) - 7;
    }

    /** The exact worth of a SUM, whatever slow makes of it. */
    private static void worth(String sum, int due) {
        Check.due(sum + " is " + due, slow("if(" + sum + "=" + told(due) + ",1,0)"), 1);
        Check.due(sum + " is no more than " + due, slow("if(" + sum + ">" + told(due) + ",1,0)"), 0);
        Check.due(sum + " is no less than " + due, slow("if(" + sum + "<" + told(due) + ",1,0)"), 0);
    }

    private static void choices() {
        Check.sentence("(the first SUM where the TEST holds, else the second one)");
        worth("if(all,5,6)", 5);
        worth("if(not all,5,6)", 6);
        worth("if(1<2,5,6)", 5);
        worth("if(2<2,5,6)", 6);
        worth("if(all,0-5,1/0)", -5);
        worth("if(not all,1%0,0-6)", -6);
        worth("if(1=1,if(1=2,1,2),if(1=2,3,4))", 2);
    }

    private static void fromTheLeft() {
        Check.sentence("All from the left on");
        worth("9-5-3", 1);
        worth("9-5+3", 7);
        worth("100/7/3", 4);
        worth("100/7*3", 42);
        worth("100*7/3", 233);
        worth("100%7*5", 10);
        worth("100%70%20", 10);
        worth("2+3*4-5", 9);
    }

    private static void quotients() {
        Check.sentence("/ gives the greatest whole number not above, % what is left (a less b times that)");
        for (int a = -7; a <= 7; a++) {
            for (int b = -3; b <= 3; b++) {
                if (b != 0) {
                    int quotient = (int) Math.floor((double) a / b);
                    String sum = "(" + told(a) + ")/(" + told(b) + ")";
                    worth(sum, quotient);
                    worth(sum.replace('/', '%'), a - b * quotient);
                }
            }
        }
        worth(MILLION + "/(0-1)", -1000000);
        worth("(0-" + MILLION + ")/(0-1)", 1000000);
        worth("(0-" + MILLION + ")/(" + told(999999) + ")", -2);
        worth(MILLION + "%(" + told(-999999) + ")", -999998);
        worth("(0-" + MILLION + ")%(" + told(999999) + ")", 999998);
        worth("(0-1)%(" + MILLION + ")", 999999);
        worth("1%(0-" + MILLION + ")", -999999);
        worth("1/(" + MILLION + ")", 0);
        worth("(0-1)/(" + MILLION + ")", -1);
    }

    private static void byNothing() {
        Check.sentence("by 0 both give 0");
        String[] numbers = {"0", "1", "9999", "(0-1)", MILLION, "(0-" + MILLION + ")"};
        for (String number : numbers) {
            worth(number + "/0", 0);
            worth(number + "%0", 0);
            worth(number + "/(3-3)", 0);
            worth(number + "%(3-3)", 0);
            worth("7+" + number + "/0", 7);
            worth("7+" + number + "%0", 7);
        }
        worth("5/clock", 0);
        worth("5%clock", 0);
        // the least divisor on either side of 0 is one
        worth("5/1", 5);
        worth("5/(0-1)", -5);
        worth("5%1", 0);
    }

    private static void aboveAMillion() {
        Check.sentence("each result above 10 to the 6 is that");
        worth(MILLION + "-1", 999999);
        worth(MILLION, 1000000);
        worth("999*1000+1000", 1000000);
        worth("999*1000+1001", 1000000);
        worth(MILLION + "+1", 1000000);
        worth(MILLION + "-(0-1)", 1000000);
        worth("1001*1000", 1000000);
        worth("9999*9999", 1000000);
        worth("(0-9999)*(0-9999)", 1000000);
        worth(MILLION + "*(" + MILLION + ")", 1000000);
        worth(MILLION + "+" + MILLION, 1000000);
        worth("max(" + MILLION + ",1)", 1000000);
    }

    private static void belowAMillion() {
        Check.sentence("below -10 to the 6 likewise");
        worth("0-" + MILLION + "+1", -999999);
        worth("0-" + MILLION, -1000000);
        worth("0-999*1000-1000", -1000000);
        worth("0-999*1000-1001", -1000000);
        worth("0-" + MILLION + "-1", -1000000);
        worth("(0-1001)*1000", -1000000);
        worth("(0-9999)*9999", -1000000);
        worth("9999*(0-9999)", -1000000);
        worth(MILLION + "*(0-" + MILLION + ")", -1000000);
        worth("0-" + MILLION + "-" + MILLION, -1000000);
        worth("(0-" + MILLION + ")+(0-" + MILLION + ")", -1000000);
        worth("min(0-" + MILLION + ",1)", -1000000);
    }

    private static void limitsOnTheWay() {
        Check.sentence("each result above 10 to the 6 is that, below -10 to the 6 likewise.");
        worth(MILLION + "+1-1", 999999);
        worth("0-" + MILLION + "-1+1", -999999);
        worth("1001*1000/1000", 1000);
        worth("9999*9999*9999/9999", 100);
        worth("9999*9999%9999", 1000000 % 9999);
        worth("(0-9999)*9999/9999", -101);
        worth("min(9999*9999,9999*9998)-max(9999*9999,1)", 0);
        worth("if(9999*9999=9998*9998,1,2)", 1);
        worth("if(9999*9999>" + MILLION + ",1,2)", 2);
        worth("if((0-9999)*9999<0-" + MILLION + ",1,2)", 2);
    }

    private static void comparisons() {
        Check.sentence("SUM SIGN SUM, SIGN < or > or = .");
        int[][] pairs = {{1, 2}, {2, 2}, {3, 2}, {-1, 0}, {0, 0}, {1, 0}, {-3, -2}, {999999, 1000000}, {-1000000, -999999},
            {1000000, -1000000}};
        for (int[] pair : pairs) {
            String left = told(pair[0]);
            String right = told(pair[1]);
            worth("if(" + left + "<" + right + ",1,2)", pair[0] < pair[1] ? 1 : 2);
            worth("if(" + left + ">" + right + ",1,2)", pair[0] > pair[1] ? 1 : 2);
            worth("if(" + left + "=" + right + ",1,2)", pair[0] == pair[1] ? 1 : 2);
        }
    }

    private static void facts() {
        Check.sentence("TEST: BOTH { or BOTH }. BOTH: FACT { and FACT }. FACT: not FACT; [ TEST ] ; all;");
        String[] pairs = {"not all|all", "2<1|1<2", "1>2|2>1", "1=2|1=1", "[not all]|[all]", "not not 1=2|not 1=2"};
        for (String pair : pairs) {
            for (String other : pairs) {
                worth("if(" + pair.split("[|]")[1] + " and " + other.split("[|]")[1] + ",1,0)", 1);
                worth("if(" + pair.split("[|]")[1] + " and " + other.split("[|]")[0] + ",1,0)", 0);
                worth("if(" + pair.split("[|]")[0] + " or " + other.split("[|]")[0] + ",1,0)", 0);
                worth("if(" + pair.split("[|]")[0] + " or " + other.split("[|]")[1] + ",1,0)", 1);
            }
        }
        String[] facts = {"not all", "all"};
        for (int a = 0; a < 2; a++) {
            for (int b = 0; b < 2; b++) {
                for (int c = 0; c < 2; c++) {
                    String one = facts[a];
                    String two = facts[b];
                    String three = facts[c];
                    worth("if(" + one + " and " + two + " or " + three + ",1,0)", a & b | c);
                    worth("if(" + one + " or " + two + " and " + three + ",1,0)", a | b & c);
                    worth("if([" + one + " or " + two + "] and " + three + ",1,0)", (a | b) & c);
                    worth("if(not [" + one + " or " + two + "] and " + three + ",1,0)", (1 - (a | b)) & c);
                    worth("if(not " + one + " or " + two + " or " + three + ",1,0)", 1 - a | b | c);
                    worth("if(" + one + " and " + two + " and not " + three + ",1,0)", a & b & 1 - c);
                }
            }
        }
    }

    private static void givenToSlow() {
        Check.sentence("In slow: the minutes that the way takes, the chair's weight, how strong who carries it is, how wide it is, "
            + "the minute on his clock, 1 if it is his own, else 0.");
        OwnChair x = Check.made(TOWN.replace("takes 7", "takes 60") + "joined p q;slow if(own=1,takes+weight*2+strong+wide*100,"
            + "takes+weight*2+strong+wide*100+clock*10);");
        Check.due("his own", x.takes(0, 1, 0), 60 + 60 + 60 + 4 + 200);
        Check.due("another one's", x.takes(0, 1, 1), 60 + 60 + 10 + 4 + 300);
        Check.due("carried by a stronger one", x.takes(1, 1, 0), 60 + 60 + 60 + 90 + 200);
        x.stay(1, 9);
        Check.due("the minute on the clock of who carries it", x.takes(1, 1, 0), 60 + 60 + 60 + 90 + 200 + 90);
        Check.due("not on the owner's", x.takes(0, 1, 1), 60 + 60 + 10 + 4 + 300);
        OwnChair late = Check.made(TOWN + "slow clock-" + told(99000) + ";");
        for (int i = 0; i < 101; i++) {
            late.stay(0, 999);
        }
        Check.due("the latest clock is 99999", late.takes(0, 1, 0), 7 + 999);
    }

    private static void givenToStands() {
        Check.sentence("In stands: the minutes that one stands, the weight of his own chair, how strong he is, how wide it is, "
            + "his clock, 1.");
        String[] sums = {"takes", "weight", "strong", "wide", "own"};
        int[] due = {999, 30, 4, 2, 1};
        for (int i = 0; i < sums.length; i++) {
            OwnChair x = Check.made(TOWN + "joined p q;stands " + sums[i] + ";");
            x.go(0, 1, -1);
            Check.due("stands " + sums[i], x.stay(0, 999), due[i]);
        }
        OwnChair x = Check.made(TOWN + "stands clock;");
        x.go(0, 1, -1);
        // the later CLOCK is told ahead of the SUM: 7 minutes gone, 1 waited
        Check.due("stands clock", x.stay(0, 1), 8);
    }

    private static void slowRange() {
        Check.sentence("the SUM of slow, 0 .. 999 (0 without; below is 0, above 999)");
        int[][] due = {{0, 0}, {1, 1}, {998, 998}, {999, 999}, {1000, 999}, {1000000, 999}, {-1, 0}, {-1000000, 0}};
        for (int[] one : due) {
            OwnChair x = Check.made(TOWN + "slow " + told(one[0]) + ";");
            Check.due("takes by slow " + one[0], x.takes(0, 1, 0), 7 + one[1]);
            Check.due("go by slow " + one[0], x.go(0, 1, 0), 7 + one[1]);
            Check.due("kept by slow " + one[0], x.kept(0, 3), 7 + one[1]);
            Check.due("route by slow " + one[0], x.route(0, 1, 1, -1), 7 + one[1]);
            Check.due("bearer by slow " + one[0], x.bearer(1, 1, -1), 7 + one[1]);
            Check.due("errand by slow " + one[0], Check.errand(x, 1, 1, 1), 7 + one[1]);
            Check.due("without a chair", x.takes(0, 0, -1), 7);
        }
        Check.due("without slow", Check.made(TOWN).takes(0, 1, 0), 7);
        Check.due("the most that a way can take", Check.made(TOWN + "way a b takes 60;slow 999;").go(0, 1, 0), 1059);
        Check.due("the least", Check.made(TOWN + "way a b takes 1;").go(0, 1, 0), 1);
    }

    private static void standsRange() {
        Check.sentence("if he does not SIT, he has the SUM of stands, 0 .. 999 (n without) more of ACHE.");
        int[][] due = {{0, 0}, {1, 1}, {998, 998}, {999, 999}, {1000, 999}, {1000000, 999}, {-1, 0}, {-1000000, 0}};
        for (int[] one : due) {
            OwnChair x = Check.made(TOWN + "stands " + told(one[0]) + ";");
            Check.due("he sits", x.stay(0, 5), 0);
            x.go(0, 1, -1);
            Check.due("stands " + one[0], x.stay(0, 5), one[1]);
            Check.due("stands " + one[0] + " again", x.stay(0, 5), 2 * one[1]);
        }
        OwnChair x = Check.made(TOWN);
        x.go(0, 1, -1);
        Check.due("1 without", x.stay(0, 1), 1);
        Check.due("999 without", x.stay(0, 999), 1000);
    }
}
