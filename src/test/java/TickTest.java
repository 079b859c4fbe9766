/** What MACHINES do in a TICK: 4 and 5 of the Terms, as run shows them (promise 23). */
public final class TickTest {
    public static void main(String[] args) {
        charging();
        going();
        ways();
        ties();
        stayingAndGivingUp();
        scooping();
        oneKilo();
        dropping();
        fusing();
        chargingAtTheBase();
        mending();
        branches();
        repeats();
        fifty();
        names();
        sums();
        breaking();
        Due.end();
    }

    private static void charging() {
        DarkBase b = new DarkBase();
        b.rule(0, 2);
        b.machine(0, 1);
        b.machine(0, 2);
        b.machine(0, 3);
        b.tune(1, 0, 98);
        b.tune(2, 1, 100);
        b.run(1);
        Due.is("three", b.has(0, 2), 53);
        Due.is("a hundred at most", b.has(1, 2), 100);
        Due.is("none for broken ones", b.has(2, 2), 50);
        b.run(5);
        Due.is("none in the dark", b.has(0, 2), 56);
    }

    private static void going() {
        DarkBase b = Dark.base();
        b.machine(0, 7);
        b.cell(8, 3);
        Due.order(b, 0, 0, "go 3 1 wait");
        b.run(1);
        Due.is("onto a road", b.has(0, 2), 49);
        Due.is("no wear", b.has(0, 3), 0);
        b.run(1);
        Due.is("onto ground", b.has(0, 2), 47);
        Due.is("wear", b.has(0, 3), 1);
        Due.is("there", b.has(0, 1), 9);
        b.run(1);
        Due.is("waits, not over", b.has(0, 6), 0);
        b.run(1);
        Due.is("over", b.has(0, 6), DarkBase.NONE);
        b.cell(8, 2);
        Due.order(b, 0, 0, "go 2 1");
        b.run(1);
        Due.is("onto a pit", b.has(0, 2), 45);
        b.cell(6, 0);
        Due.order(b, 0, 0, "go 0 1 go 0 0");
        b.run(2);
        Due.is("left", b.has(0, 1), 6);
        b.run(1);
        Due.is("above", b.has(0, 1), 0);
        Due.is("the base is a road", b.has(0, 2), 40);
        Due.order(b, 0, 0, "go 0 3");
        b.run(1);
        Due.is("below", b.has(0, 1), 6);
    }

    private static void ways() {
        DarkBase b = Dark.base();
        b.machine(0, 0);
        b.tune(0, 0, 100);
        b.cell(1, 1);
        b.cell(7, 1);
        b.cell(13, 1);
        Due.order(b, 0, 0, "go 2 0");
        int[] due = {6, 12, 18, 19, 20, 14, 8, 2, 2};
        for (int cell : due) {
            b.run(1);
            Due.is("round rocks", b.has(0, 1), cell);
        }
        Due.is("over", b.has(0, 6), DarkBase.NONE);
    }

    private static void ties() {
        DarkBase b = Dark.base();
        b.ground(5, 5);
        b.machine(0, 12);
        b.tune(0, 0, 100);
        b.cell(13, 1);
        Due.order(b, 0, 0, "go 4 2");
        b.run(1);
        Due.is("below ahead of above", b.has(0, 1), 17);
        b.ground(5, 5);
        b.machine(0, 12);
        Due.order(b, 0, 0, "go 3 3");
        b.run(1);
        Due.is("right ahead of below", b.has(0, 1), 13);
        b.ground(5, 5);
        b.machine(0, 12);
        b.cell(7, 1);
        Due.order(b, 0, 0, "go 2 0");
        b.run(1);
        Due.is("right ahead of left", b.has(0, 1), 13);
        b.ground(5, 5);
        b.machine(0, 12);
        Due.order(b, 0, 0, "go 1 1");
        b.run(1);
        Due.is("left ahead of above", b.has(0, 1), 11);
        b.ground(5, 5);
        b.machine(0, 12);
        Due.order(b, 0, 0, "go 1 3");
        b.run(1);
        Due.is("left ahead of below", b.has(0, 1), 11);
    }

    private static void stayingAndGivingUp() {
        DarkBase b = Dark.base();
        b.machine(0, 7);
        b.machine(0, 8);
        Due.order(b, 0, 0, "go 3 1");
        b.run(2);
        Due.is("a machine is there", b.has(0, 1), 7);
        Due.is("and it costs nothing", b.has(0, 2), 50);
        Due.is("it goes on", b.has(0, 6), 0);
        b.ground(6, 4);
        b.machine(0, 7);
        b.tune(0, 0, 1);
        Due.order(b, 0, 0, "go 3 1");
        b.run(2);
        Due.is("too little charge", b.has(0, 1), 7);
        Due.is("it is kept", b.has(0, 2), 1);
        b.cell(8, 3);
        b.run(1);
        Due.is("enough for a road", b.has(0, 1), 8);
        Due.is("none left", b.has(0, 2), 0);
        String[] texts = {"go 6 0 drop", "go 0 4 drop", "go 9999 9999 drop", "go 5 0 drop"};
        for (String text : texts) {
            b.ground(6, 4);
            b.cell(5, 1);
            b.machine(1, 7);
            Due.order(b, 0, 0, "scoop");
            b.run(2);
            Due.order(b, 0, 0, text);
            b.run(1);
            Due.is("given up, and takes the tick", b.has(0, 4), 5);
            Due.is("it stays", b.has(0, 1), 7);
            b.run(1);
            Due.is("the next one", b.has(0, 4), 0);
        }
        b.ground(6, 4);
        b.machine(1, 7);
        Due.order(b, 0, 0, "go 1 1 scoop");
        b.run(1);
        Due.is("there takes nothing", b.has(0, 4), 5);
        b.ground(6, 4);
        b.cell(4, 1);
        b.cell(11, 1);
        b.machine(1, 7);
        Due.order(b, 0, 0, "go 5 0 scoop");
        b.run(1);
        Due.is("no way", b.has(0, 4), 0);
        b.run(1);
        Due.is("then the next one", b.has(0, 4), 5);
    }

    private static void scooping() {
        DarkBase b = Dark.base();
        b.machine(1, 7);
        b.put(7, 1, 50);
        Due.order(b, 0, 0, "scoop scoop scoop");
        b.run(1);
        int[] once = {1, 7, 47, 2, 5, 0};
        for (int what = 0; what < once.length; what++) {
            Due.is("once " + what, b.has(0, what), once[what]);
        }
        b.run(2);
        Due.is("ten at most", b.has(0, 4), 10);
        Due.is("nothing costs nothing", b.has(0, 2), 44);
        Due.is("nor wear", b.has(0, 3), 4);
        Due.is("left", b.told(7, 1), 10);
        Due.is("carried", b.kilos(1), 10);
        b.cell(7, 2);
        Due.order(b, 0, 0, "scoop drop scoop");
        b.run(1);
        Due.is("it carries the other", b.has(0, 4), 10);
        b.run(1);
        Due.is("dropped", b.told(7, 1), 20);
        b.run(1);
        Due.is("ice of a pit", b.has(0, 5), 1);
        Due.is("five of it", b.told(7, 2), 45);
        Due.is("no dust is carried", b.kilos(1), 0);
        b.cell(7, 0);
        Due.order(b, 0, 0, "scoop");
        b.run(1);
        Due.is("dust, with ice on it", b.has(0, 4), 5);
        b.ground(6, 4);
        b.machine(2, 8);
        b.machine(0, 9);
        b.machine(3, 10);
        b.put(8, 0, 3);
        for (int i = 0; i < 3; i++) {
            Due.order(b, i, 0, "scoop");
            b.run(1);
        }
        Due.is("fusers are scoopers", b.has(0, 4), 3);
        Due.is("rovers are none", b.has(1, 4), 0);
        Due.is("menders are none", b.has(2, 4), 0);
        Due.is("and pay nothing", b.has(2, 2), 50);
        b.put(8, 0, 20);
        b.tune(0, 0, 2);
        Due.order(b, 0, 0, "scoop");
        b.run(1);
        Due.is("below 3", b.has(0, 4), 3);
        b.tune(0, 0, 3);
        Due.order(b, 0, 0, "scoop");
        b.run(1);
        Due.is("with 3", b.has(0, 4), 8);
        Due.is("all of it", b.has(0, 2), 0);
    }

    /** One kilo is enough to be the other, to be dropped, and to cost what five cost. */
    private static void oneKilo() {
        DarkBase b = Dark.base();
        b.machine(1, 7);
        b.put(7, 0, 1);
        b.put(7, 1, 8);
        Due.order(b, 0, 0, "scoop scoop wait scoop drop");
        b.run(1);
        Due.is("one", b.has(0, 4), 1);
        Due.is("of dust", b.has(0, 5), 0);
        Due.is("three all the same", b.has(0, 2), 47);
        b.run(1);
        Due.is("none is there", b.has(0, 2), 47);
        b.cell(7, 2);
        b.run(2);
        Due.is("no ice onto it", b.told(7, 2), 8);
        b.run(1);
        Due.is("dropped", b.told(7, 1), 1);
        Due.is("for one", b.has(0, 2), 46);
    }

    private static void dropping() {
        DarkBase b = Dark.base();
        b.machine(1, 1);
        Due.order(b, 0, 0, "drop scoop drop scoop go 0 0 drop drop");
        b.run(1);
        Due.is("nothing to drop", b.has(0, 2), 50);
        b.run(2);
        Due.is("dropped where it is", b.told(1, 1), 20);
        Due.is("for one", b.has(0, 2), 46);
        Due.is("of nothing", b.has(0, 5), DarkBase.NONE);
        b.run(3);
        Due.is("to the store", b.base(6), 5);
        Due.is("not to the cell", b.told(0, 1), 0);
        Due.is("three, one, one", b.has(0, 2), 41);
        b.run(1);
        Due.is("no more", b.has(0, 2), 41);
        Due.is("kilos", b.kilos(5), 460);
        Due.is("in the store", b.kilos(2), 5);
        b.cell(1, 2);
        b.put(1, 1, 4);
        Due.order(b, 0, 0, "go 1 0 scoop go 0 0 drop");
        b.run(4);
        Due.is("ice", b.base(7), 4);
        Due.is("no ice as dust", b.base(6), 5);
        b.store(0, 9999);
        b.cell(1, 0);
        Due.order(b, 0, 0, "go 1 0 scoop go 0 0 drop");
        b.run(4);
        Due.is("no kilo is lost", b.base(6), 10004);
    }

    private static void fusing() {
        DarkBase b = Dark.base();
        b.machine(2, 7);
        Due.order(b, 0, 0, "fuse fuse");
        b.run(1);
        Due.is("a road", b.told(7, 0), 3);
        Due.is("ten in it", b.told(7, 1), 10);
        Due.is("six", b.has(0, 2), 44);
        Due.is("three", b.has(0, 3), 3);
        b.run(1);
        Due.is("not a road", b.has(0, 2), 44);
        Due.is("fused", b.kilos(3), 10);
        b.cell(7, 0);
        Due.order(b, 0, 0, "fuse");
        b.run(1);
        Due.is("once more", b.kilos(3), 20);
        b.cell(7, 2);
        Due.is("whatever they are by now", b.kilos(3), 20);
        b.put(7, 0, 20);
        Due.order(b, 0, 0, "fuse");
        b.run(1);
        Due.is("not a pit", b.told(7, 0), 2);
        b.cell(7, 0);
        b.put(7, 0, 9);
        Due.order(b, 0, 0, "fuse");
        b.run(1);
        Due.is("too little dust", b.told(7, 0), 0);
        b.put(7, 0, 10);
        b.tune(0, 0, 5);
        Due.order(b, 0, 0, "fuse");
        b.run(1);
        Due.is("too little charge", b.told(7, 0), 0);
        b.tune(0, 0, 6);
        Due.order(b, 0, 0, "fuse");
        b.run(1);
        Due.is("just enough of both", b.told(7, 0), 3);
        Due.is("no dust", b.told(7, 1), 0);
        b.machine(1, 8);
        Due.order(b, 1, 0, "fuse");
        b.run(1);
        Due.is("not by a scooper", b.told(8, 0), 0);
        b.ground(2, 2);
        b.put(0, 0, 10);
        b.machine(2, 0);
        Due.order(b, 0, 0, "fuse");
        b.run(1);
        Due.is("not the base", b.told(0, 0), 4);
    }

    private static void chargingAtTheBase() {
        DarkBase b = Dark.base();
        b.machine(0, 0);
        b.rule(2, 25);
        b.tune(0, 0, 1);
        Due.order(b, 0, 0, "charge charge charge");
        b.run(1);
        Due.is("twenty", b.has(0, 2), 21);
        Due.is("from the bank", b.base(2), 5);
        b.run(1);
        Due.is("as much as there is", b.has(0, 2), 26);
        Due.is("nothing left", b.base(2), 0);
        b.rule(2, 100);
        b.tune(0, 0, 95);
        b.run(1);
        Due.is("as much as it can have", b.has(0, 2), 100);
        Due.is("no more", b.base(2), 95);
        b.machine(0, 1);
        Due.order(b, 1, 0, "charge");
        b.run(1);
        Due.is("only at the base", b.has(1, 2), 50);
    }

    private static void mending() {
        DarkBase b = Dark.base();
        b.ground(3, 3);
        b.machine(3, 4);
        int[] beside = {5, 3, 7, 1};
        for (int i = 0; i < 4; i++) {
            b.machine(0, beside[i]);
            b.tune(i + 1, 1, 40);
        }
        b.tune(0, 1, 90);
        b.store(2, 9);
        String mends = "mend mend mend mend mend";
        Due.order(b, 0, 0, mends);
        for (int i = 0; i < 4; i++) {
            b.run(1);
            Due.is("the first of several", b.has(i + 1, 3), 10);
        }
        Due.is("itself not", b.has(0, 3), 90);
        b.run(1);
        Due.is("not below 0", b.has(1, 3), 0);
        Due.is("parts", b.base(8), 4);
        Due.is("charge", b.has(0, 2), 30);
        b.tune(4, 1, 100);
        Due.order(b, 0, 0, mends);
        b.run(1);
        Due.is("the most worn, broken too", b.has(4, 3), 70);
        b.run(4);
        Due.is("seventy, forty, ten", b.has(4, 3), 10);
        Due.is("parts are gone", b.base(8), 0);
        for (int i = 1; i < 5; i++) {
            b.tune(i, 1, 0);
        }
        b.store(2, 1);
        b.tune(0, 0, 50);
        Due.order(b, 0, 0, "mend");
        b.run(1);
        Due.is("none is worn", b.base(8), 1);
        Due.is("and it costs nothing", b.has(0, 2), 50);
        b.tune(2, 1, 5);
        b.tune(0, 0, 3);
        Due.order(b, 0, 0, "mend");
        b.run(1);
        Due.is("too little charge", b.has(2, 3), 5);
        b.tune(0, 0, 4);
        Due.order(b, 0, 0, "mend");
        b.run(1);
        Due.is("just enough", b.has(2, 3), 0);
        b.tune(0, 1, 50);
        b.store(2, 5);
        Due.order(b, 1, 0, "mend");
        b.run(1);
        Due.is("not by a rover", b.has(0, 3), 50);
        b.ground(3, 3);
        b.machine(3, 5);
        b.machine(0, 6);
        b.tune(1, 1, 50);
        b.store(2, 5);
        Due.order(b, 0, 0, "mend");
        b.run(1);
        Due.is("not round the edge", b.has(1, 3), 50);
    }

    private static void branches() {
        DarkBase b = Dark.base();
        b.machine(1, 7);
        Due.order(b, 0, 0, "if k=0{scoop}else{drop}scoop");
        b.run(1);
        Due.is("then", b.has(0, 4), 5);
        b.run(1);
        Due.is("past else", b.has(0, 4), 10);
        b.run(1);
        Due.is("over", b.has(0, 6), DarkBase.NONE);
        Due.order(b, 0, 0, "if k=0{scoop}else{drop}scoop");
        b.run(1);
        Due.is("else", b.has(0, 4), 0);
        b.run(1);
        Due.is("behind it", b.has(0, 4), 5);
        Due.order(b, 0, 0, "if 0{wait}drop");
        b.run(1);
        Due.is("without else", b.has(0, 4), 0);
        Due.order(b, 0, 0, "while k<10{scoop}drop");
        b.run(2);
        Due.is("while", b.has(0, 4), 10);
        b.run(1);
        Due.is("asked anew", b.has(0, 4), 0);
        Due.order(b, 0, 0, "until d>30 scoop");
        b.run(3);
        Due.is("until", b.has(0, 4), 0);
        b.put(7, 0, 31);
        b.run(1);
        Due.is("that ends does not take the tick", b.has(0, 4), 5);
        Due.order(b, 0, 0, "if 1{if 0{wait}else{if 1{drop}}}scoop");
        b.run(1);
        Due.is("within one another", b.has(0, 4), 0);
        b.run(1);
        Due.is("and out of all", b.has(0, 4), 5);
    }

    private static void repeats() {
        DarkBase b = Dark.base();
        b.machine(1, 7);
        b.put(7, 0, 999);
        Due.order(b, 0, 0, "repeat 2{repeat 3{wait}scoop}drop");
        int[] due = {0, 0, 0, 5, 5, 5, 5, 10, 0};
        for (int t = 0; t < due.length; t++) {
            b.run(1);
            Due.is("repeat at " + t, b.has(0, 4), due[t]);
        }
        Due.order(b, 0, 0, "repeat 0{scoop}wait scoop");
        b.run(1);
        Due.is("none", b.has(0, 4), 0);
        b.run(1);
        Due.is("then", b.has(0, 4), 5);
        Due.order(b, 0, 0, "drop repeat 1{scoop}repeat 1{drop}");
        b.run(2);
        Due.is("one", b.has(0, 4), 5);
        b.run(1);
        Due.is("and the next", b.has(0, 4), 0);
        b.run(1);
        Due.is("over", b.has(0, 6), DarkBase.NONE);
        Due.order(b, 0, 0, "repeat 2{wait}");
        b.run(1);
        b.send(0, 0);
        b.run(3);
        Due.is("a new order, all of it", b.has(0, 6), DarkBase.NONE);
    }

    private static void fifty() {
        DarkBase b = Dark.base();
        b.machine(1, 7);
        Due.order(b, 0, 0, "repeat 48{if 0{wait}}");
        b.run(1);
        Due.is("97: one tick is not enough", b.has(0, 6), 0);
        b.run(1);
        Due.is("two are", b.has(0, 6), DarkBase.NONE);
        Due.order(b, 0, 0, "repeat 24{if 0{wait}}scoop");
        b.run(1);
        Due.is("49, and then the scoop", b.has(0, 4), 5);
        Due.order(b, 0, 0, "if 1{repeat 24{if 0{wait}}}scoop");
        b.run(1);
        Due.is("50, and no scoop", b.has(0, 4), 5);
        b.run(1);
        Due.is("it goes on there", b.has(0, 4), 10);
        Due.order(b, 0, 0, "if 1{repeat 24{if 0{wait}}}");
        b.run(1);
        Due.is("50, and not found over", b.has(0, 6), 0);
        b.run(1);
        Due.is("found then", b.has(0, 6), DarkBase.NONE);
        Due.order(b, 0, 0, "repeat 24{if 0{wait}}");
        b.run(1);
        Due.is("49 are over", b.has(0, 6), DarkBase.NONE);
        Due.order(b, 0, 0, "repeat 16{go 1 1 until 1}drop");
        b.run(1);
        Due.is("49 with go and until", b.has(0, 4), 0);
        Due.order(b, 0, 0, "if 1{scoop}repeat 16{go 1 1 until 1}go 1 1 drop");
        b.run(1);
        Due.is("scooped", b.has(0, 4), 5);
        b.run(1);
        Due.is("50 behind it", b.has(0, 4), 5);
        b.run(1);
        Due.is("dropped", b.has(0, 4), 0);
        Due.order(b, 0, 0, "while 1{if 1{if 0{wait}}}");
        b.run(30);
        Due.is("for ever", b.has(0, 6), 0);
    }

    private static void names() {
        DarkBase b = Dark.base();
        b.machine(1, 15);
        b.put(15, 1, 77);
        b.tune(0, 0, 61);
        Due.order(b, 0, 0, "scoop");
        b.run(1);
        b.tune(0, 1, 23);
        Dark.holds(b, "c=58", 1);
        Dark.holds(b, "k=5", 1);
        Dark.holds(b, "w=23", 1);
        Dark.holds(b, "s=0", 1);
        Dark.holds(b, "d=15", 1);
        Dark.holds(b, "i=77", 1);
        Dark.holds(b, "b=110", 1);
        Dark.holds(b, "t=9", 1);
        Dark.holds(b, "x=3", 1);
        Dark.holds(b, "y=2", 1);
        b.run(13);
        Due.is("tick", b.base(0), 25);
        Dark.holds(b, "s=1&t=0", 1);
        Dark.holds(b, "s=0&t=1", 1);
        b.load(40, 1);
        Dark.holds(b, "b=80", 1);
    }

    private static void sums() {
        DarkBase b = new DarkBase();
        b.rule(4, 0);
        b.machine(0, 1);
        String[] yes = {"1+2*3=7", "(1+2)*3=9", "10-3-2=5", "10-(3-2)=9", "1-2<0", "2*3*4=24", "!0", "!!5=1", "!5=0", "(2&1)=1",
            "(2|0)=1", "(0|0)=0", "(1&0)=0", "(1<2)+(2>1)=2", "1|0&0", "(1|0)&1", "!0&1", "!(1&0)", "!0+1=2", "2&4", "3", "0-1",
            "((((((((1))))))))", "1=1&2=2", "5>3|x", "(5=5)=1", "1-1|1-1|1", "0009=9", "1|0&0*0=7", "2+3>1*4", "9+9=2*9"};
        String[] no = {"0", "1-1", "!1", "!!0", "1&0", "0|0", "2<1", "1<1", "1>1", "1=2", "(1|1)&0", "!(1|0)", "!2", "1-1+0", "2=1+2"};
        for (String e : yes) {
            Dark.holds(b, e, 1);
        }
        for (String e : no) {
            Dark.holds(b, e, 0);
        }
        Dark.holds(b, "9999*9999*99<0", 9999 * 9999 * 99 < 0 ? 1 : 0);
        Dark.holds(b, "9999*9999*22<0", 1);
        Dark.holds(b, "0-9999*9999*22>0", 1);
        Dark.holds(b, "4096*4096*256", 0);
    }

    private static void breaking() {
        DarkBase b = Dark.base();
        b.machine(1, 7);
        b.machine(0, 8);
        b.tune(0, 1, 99);
        Due.order(b, 0, 0, "scoop drop");
        b.run(1);
        Due.is("a hundred at most", b.has(0, 3), 100);
        Due.is("it took it", b.has(0, 4), 5);
        Due.is("no report", b.map(7, 0), DarkBase.NONE);
        Due.is("of others", b.map(8, 3), 1);
        b.run(3);
        Due.is("broken ones do nothing", b.has(0, 4), 5);
        Due.is("and keep their program", b.has(0, 6), 0);
        b.tune(0, 1, 99);
        b.run(1);
        Due.is("and go on with it", b.has(0, 4), 0);
        Due.is("a report again", b.map(7, 3), 5);
    }
}
