import java.util.Random;

/** SUM and TEST, as slow and stands use them (terms I and II, promises 12 and 14). */
public final class SumTest {
    private static final String TOWN = "room a door 9 floor 99;room b door 9 floor 99;way a b takes 7;"
        + "person p strong 4 chair 30 wide 2 at a;person q strong 90 chair 5 wide 3 at a;";

    public static void main(String[] args) {
        orders();
        quotients();
        limits();
        tests();
        given();
        clamped();
        stands();
        deepOnes();
        randomOnes();
        Check.finish();
    }

    /** What p's chair takes beyond the way's 7 minutes when he carries it. */
    private static int slow(String sum) {
        return Check.made(TOWN + "slow " + sum + ";").takes(0, 1, 0) - 7;
    }

    private static void due(String sum, int want) {
        Check.due("slow " + sum, slow(sum), want);
    }

    private static void orders() {
        due("5", 5);
        due("0", 0);
        due("2+3*4", 14);
        due("(2+3)*4", 20);
        due("20-5-3", 12);
        due("20-(5-3)", 18);
        due("100/5/2", 10);
        due("100/(5/2)", 50);
        due("17%10*3", 21);
        due("17*3%10", 1);
        due("7-2+1", 6);
        due("2*3+4*5-6/2", 23);
        due(" 2\n+ 3 ", 5);
        due("min(3,8)+max(3,8)", 11);
        due("min(8,3)*10+max(8,3)", 38);
        due("0007+0008", 15);
        due("1+".repeat(700) + "1", 701);
        due("1-".repeat(300) + "1+" + "3+".repeat(200) + "1", 1 - 299 - 1 + 600 + 1);
    }

    private static void quotients() {
        due("7/2", 3);
        due("100+(0-7)/2", 96);
        due("100+7/(0-2)", 96);
        due("100+(0-7)/(0-2)", 103);
        due("100+(0-6)/2", 97);
        due("7%2", 1);
        due("100+(0-7)%2", 101);
        due("100+7%(0-2)", 99);
        due("100+(0-7)%(0-2)", 99);
        due("100+(0-7)%5", 103);
        due("5/0+3", 3);
        due("5%0+3", 3);
        due("0/0+4", 4);
        due("(0-5)/0+9", 9);
        due("(0-5)%0+9", 9);
    }

    private static void limits() {
        // a million is the most: what is above comes back as it
        due("9999*9999-999*1000-990", 10);
        due("1000*1000/1000-990", 10);
        due("1000*1001/1000-990", 10);
        due("(0-9999)*9999+9999*100+100-0+100", 100);
        due("9999*9999*9999/9999", 100);
        due("1000*999+9999-999*1000-999", 1);
        due("0-(0-9999*9999)-999*1000-990", 10);
        due("9999*9999+9999*9999-999*1000-999", 1);
        due("(0-9999*9999-9999*9999)+999*1000+999+2", 1);
        due("0-9999*9999/(0-1000)-990", 10);
    }

    private static void tests() {
        due("if(1<2,10,20)", 10);
        due("if(2<2,10,20)", 20);
        due("if(2>1,10,20)", 10);
        due("if(2>2,10,20)", 20);
        due("if(2=2,10,20)", 10);
        due("if(2=3,10,20)", 20);
        due("if(all,10,20)", 10);
        due("if(not all,10,20)", 20);
        due("if(not not all,10,20)", 10);
        due("if(1=2 or 1=1,10,20)", 10);
        due("if(1=2 and 1=1,10,20)", 20);
        // and binds more than or
        due("if(all or all and not all,10,20)", 10);
        due("if([all or all]and not all,10,20)", 20);
        due("if(not all and not all or all,10,20)", 10);
        due("if(not all and[not all or all],10,20)", 20);
        due("if(not 1=2 and 1=1,10,20)", 10);
        due("if(not 1=1 or 1=1,10,20)", 10);
        due("if(not[1=1 or 1=1],10,20)", 20);
        due("if(1+1=2,if(2>3,1,2),3)", 2);
        due("if(2+3*4>13,5,6)+1", 6);
        due("1+if(1<2,2,3)*4", 9);
        due("if(1=1 and 2=2 and 3=4,1,2)", 2);
        due("if(1=2 or 2=3 or 3=3,1,2)", 1);
        due("if((1)<(2),1,2)", 1);
        due("if(min(1,2)<max(1,2),1,2)", 1);
        due("if(0-1<0,1,2)", 1);
        due("if(2<if(all,3,1),1,2)", 1);
    }

    private static void given() {
        due("takes", 7);
        due("weight", 30);
        due("strong", 4);
        due("wide", 2);
        due("clock", 0);
        due("own", 1);
        OwnChair x = Check.made(TOWN + "joined p q;slow weight*10+strong+wide*100-own;");
        Check.due("q carries p's chair", x.takes(1, 1, 0), 7 + 300 + 90 + 200);
        Check.due("p carries q's chair", x.takes(0, 1, 1), 7 + 50 + 4 + 300);
        Check.due("p carries his own", x.takes(0, 1, 0), 7 + 300 + 4 + 200 - 1);
        OwnChair y = Check.made(TOWN + "slow clock;");
        y.stay(0, 100);
        Check.due("the clock as it is", y.takes(0, 1, 0), 107);
        Check.due("his own clock", y.takes(1, 1, 0), 7);
        Check.due("it is as late then", y.go(0, 1, 0), 207);
    }

    private static void clamped() {
        due("998", 998);
        due("999", 999);
        due("1000", 999);
        due("9999*9999", 999);
        due("0-1", 0);
        due("0-9999*9999", 0);
        OwnChair x = Check.made(TOWN);
        Check.due("without slow", x.takes(0, 1, 0), 7);
        OwnChair y = Check.made(TOWN + "slow 100;");
        Check.due("without a chair", y.takes(0, 1, -1), 7);
    }

    private static int ache(String sum, int minutes) {
        OwnChair x = Check.made(TOWN + (sum.isEmpty() ? "" : "stands " + sum + ";"));
        x.go(0, 1, -1);
        return x.stay(0, minutes);
    }

    private static void stands() {
        Check.due("stands without", ache("", 13), 13);
        Check.due("stands without, 999", ache("", 999), 999);
        Check.due("stands takes", ache("takes*2", 13), 26);
        Check.due("stands weight", ache("weight", 13), 30);
        Check.due("stands strong", ache("strong", 13), 4);
        Check.due("stands wide", ache("wide", 13), 2);
        Check.due("stands own", ache("own", 13), 1);
        Check.due("stands above", ache("takes*100", 13), 999);
        Check.due("stands below", ache("0-takes", 13), 0);
        // the document tells the later clock ahead of the sum: 7 minutes gone and 13 waited
        Check.due("stands clock", ache("clock", 13), 20);
    }

    /** Each level leaves as much unfinished as can be: or, and, a comparison, + and *. */
    private static void deepOnes() {
        String inner = "takes";
        for (int i = 0; i < 7; i++) {
            inner = "1+2*if(1=2 or all and takes<3+3*" + inner + ",4,5)";
        }
        due(inner, (int) modelWorth(inner));
        String right = "5";
        for (int i = 0; i < 7; i++) {
            right = "1+2*if(all,0-0*1,1+1*" + right + ")";
        }
        due(right, 1);
        String minima = "5";
        for (int i = 0; i < 7; i++) {
            minima = "1+1*min(9999," + minima + ")";
        }
        due(minima, 12);
    }

    /** What the model says of a sum for p with his own chair. */
    private static long modelWorth(String sum) {
        ModelText model = new ModelText("slow " + sum + ";");
        model.read();
        Check.due("the model's fault of " + sum, model.fault, 0);
        return model.land.slow.of(new Model.Given(7, 30, 4, 2, 0, 1));
    }

    private static void randomOnes() {
        for (int seed = 0; seed < 4000; seed++) {
            Random random = new Random(seed);
            String sum = new RandomTown(random, 1, 1).sum(1 + random.nextInt(4));
            if (sum.length() > 1200) {
                continue;
            }
            long worth = modelWorth(sum);
            due(sum, (int) Math.max(0, Math.min(999, worth)));
        }
    }
}
