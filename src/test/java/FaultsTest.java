/** Promises 3 and 4: what a text's fault is, and where. */
public final class FaultsTest {
    private static final Checks checks = new Checks();

    public static void main(String[] args) {
        numbers();
        words();
        tooMany();
        open();
        notTold();
        blanks();
        conditions();
        checks.end();
    }

    private static void fault(String text, int kind, int place) {
        checks.fault(text, kind, place);
    }

    private static void fine(String text) {
        checks.fine(text);
    }

    /** The number at the end of what stands ahead is wrong if behind, right if within. */
    private static void bounds(String ahead, int least, int most, String behind) {
        fine(ahead + least + behind);
        fine(ahead + most + behind);
        fine(ahead + "000000000000" + most + behind);
        fault(ahead + (most + 1) + behind, 2, ahead.length());
        fault(ahead + "99999999999999999999" + behind, 2, ahead.length());
        fault(ahead + "4294967296" + behind, 2, ahead.length());
        fault(ahead + "-1" + behind, 1, ahead.length());
        fault(ahead + "a" + behind, 1, ahead.length());
        if (least > 0) {
            fault(ahead + (least - 1) + behind, 2, ahead.length());
        }
    }

    private static void numbers() {
        String sixteen = "pin 1 1;pin 2 2;pin 3 3;pin 4 4;pin 5 5;pin 6 6;pin 7 7;pin 8 8;pin 9 9;pin 1 1;"
                + "pin 1 1;pin 1 1;pin 1 1;pin 1 1;";
        bounds("pin ", 0, 199, " 7;");
        bounds("pin 7 ", 0, 199, ";");
        bounds(sixteen + "pin 1 2;wheel ", 0, 15, " 5;");
        bounds(sixteen + "pin 1 2;arm ", 0, 15, " 1 1 1 0;".replace("1 1 1", "1 14 1"));
        bounds("pin 0 0;pin 1 1;arm 0 ", 1, 99, " 1 1 0;");
        bounds(sixteen + "pin 1 2;arm 14 1 ", 0, 13, " 1 0;".replace(" 1 0;", " 1 0;"), 15);
        bounds("pin 0 0;pin 1 1;arm 0 1 1 ", 1, 99, " 0;");
        bounds("pin 0 0;pin 1 1;arm 0 1 1 1 ", 0, 1, ";");
        bounds(sixteen + "pin 1 2;slot ", 0, 15, " 1 0 1 0;");
        bounds("pin 0 0;slot 0 ", 1, 99, " 0 1 0;");
        bounds("pin 0 0;slot 0 1 ", 0, 1, " 1 0;");
        bounds("pin 0 0;slot 0 1 0 ", 0, 199, " 0;");
        bounds("pin 0 0;slot 0 1 0 1 ", 0, 1, ";");
        bounds(sixteen + "pin 1 2;copy ", 0, 15, " 0 0;");
        bounds(sixteen + "pin 1 2;copy 0 ", 0, 15, " 0;");
        bounds(sixteen + "pin 1 2;copy 0 0 ", 0, 15, ";");
        bounds("pin 0 0;pin 1 1;along 0 1 ", 0, 16, ";");
        bounds("pin 0 0;pin 1 1;bar 0 1 ", 1, 999, ";");
        bounds(sixteen + "pin 1 2;pin 2 1;pencil ", 0, 15, ";");
        bounds("pin 0 0;stop x 0=", 0, 9999, ";");
        bounds(sixteen + "pin 1 2;pin 2 1;stop x ", 0, 15, "=1;");
        bounds(sixteen + "pin 1 2;pin 2 1;stop 1<y ", 0, 15, ";");
        fine("pin 0 0;wheel 0 5;");
        fine("pin 0 0;wheel 0 25;");
        fine("pin 0 0;wheel 0 65;");
        fine("pin 0 0;wheel 0 0065;");
        for (int r = 0; r < 70; r++) {
            if (r != 5 && r != 25 && r != 65) {
                fault("pin 0 0;wheel 0 " + r + ";", 2, 16);
            }
        }
        fault("arm 0 1 0 1 0;", 2, 8);
        fault("arm 3 1 003 1 0;", 2, 8);
        fault("along 4 4 2;", 2, 8);
        fault("bar 4 4 2;", 2, 6);
        fault("pin 0 0;copy 0 0 0;bar 1 1 5;", 2, 25);
        fault("pin 200 x;", 2, 4);
        fault("pin 1 200", 2, 6);
    }

    private static void bounds(String ahead, int least, int most, String behind, int last) {
        fine(ahead + least + behind);
        fine(ahead + most + behind);
        fine(ahead + last + behind);
        fault(ahead + (last + 1) + behind, 2, ahead.length());
    }

    private static void words() {
        fault("pi", 1, 0);
        fault("pinn 0 0;", 1, 0);
        fault("pinz 0 0;", 1, 0);
        fault("pina 0 0;", 1, 0);
        fault("pin 0 0;stop x 0=1 andz 1=1;", 1, 19);
        fault("Pin 0 0;", 1, 0);
        fault("  pins 0 0;", 1, 2);
        fault("pin 0 0;rod 0 0;", 1, 8);
        fault("pin 0 0;;", 1, 8);
        fault(";", 1, 0);
        fault("0", 1, 0);
        fault("pin 0 0", 1, 7);
        fault("pin 0 0  ", 1, 9);
        fault("pin 0", 1, 5);
        fault("pin", 1, 3);
        fault("pin 0 0 0;", 1, 8);
        fault("pin 0,0;", 1, 5);
        fault("pin 0 0:", 1, 7);
        fault("pin\t0 0;", 1, 3);
        fault("pin 0 0;\n", 1, 8);
        fault("pin 0 0;\0", 1, 8);
        fault("pin 0 0;" + (char) 255, 1, 8);
        fault("pin 0 0;pencil 0;pencilx 0;", 1, 17);
        fine("pin0 0;");
        fine("pin00 00;pencil0;");
        fine("pin 1 1;stop x0=1and y0=2or not[y0<x0];");
        fault("pin 1 1;stop x0=1andy0=2;", 1, 17);
        fault("pin 1 1;stop x0=1ornot[y0<x0];", 1, 17);
    }

    private static String many(String clause, int times) {
        return clause.repeat(times);
    }

    private static void tooMany() {
        String pins = many("pin 0 0;", 16);
        fine(pins);
        fault(pins + "pin 0 0;", 3, 128);
        fault(pins + "wheel 0 5;", 3, 128);
        fault(pins + "  along 0 0 0;", 3, 130);
        fault(pins + "slot", 3, 128);
        fault(pins + "slots", 1, 128);
        fault(pins + "arms", 1, 128);
        fine("pin 0 0;pin 1 1;" + many("bar 0 1 9;", 8));
        fault("pin 0 0;pin 1 1;" + many("bar 0 1 9;", 9), 3, 96);
        fine("pin 0 0;" + many("stop x 0=1;", 4));
        fault("pin 0 0;" + many("stop x 0=1;", 5), 3, 52);
        fault("pin 0 0;pencil 0;pencil 0;", 3, 17);
        fault("wheel 0 5;wheel 0 5;", 3, 10);
        fault("wheel 0 5;pin 1 1;   wheel 0 7;", 3, 21);
        fault("pencil 0;pencil", 3, 9);
        String all = "wheel 1 5;" + many("pin 0 0;", 15) + many("bar 0 1 9;", 8) + many("stop 1=0;", 4) + "pencil 0;";
        fine(all);
        fault(all + "pin 0 0;", 3, all.length());
        fault(all + "bar 0 1 9;", 3, all.length());
        fault(all + "stop 1=0;", 3, all.length());
        fault(all + "pencil 0;", 3, all.length());
        fault(all + "bars", 1, all.length());
    }

    private static void open() {
        fine("pin 0 0;stop [[[[[[x 0=1]]]]]];");
        fault("pin 0 0;stop [[[[[[[x 0=1;", 3, 19);
        fine("pin 0 0;stop ((((((x 0))))))=1;");
        fault("pin 0 0;stop (((((((x 0)))))))=1;", 3, 19);
        fine("pin 0 0;stop not not not not not not x 0=1;");
        fault("pin 0 0;stop not not not not not not not x 0=1;", 3, 37);
        fine("pin 0 0;stop not[not[not[x 0=1]]];");
        fault("pin 0 0;stop not[not[not[(x 0)=1]]];", 3, 25);
        fault("pin 0 0;stop not[not[not[not x 0=1]]];", 3, 25);
        fault("pin 0 0;stop not[not[not[[x 0=1]]]];", 3, 25);
        fine("pin 0 0;stop not[not[not[x 0=1 and 1=2] or 3=4]];");
        fine("pin 0 0;stop " + "not ".repeat(6) + "1=1 and " + "not ".repeat(6) + "1=1 or [[[[[[1=1]]]]]];");
        fine("pin 0 0;stop ((((((1))))))+((((((2))))))=((((((3))))))-1;");
        fault("pin 0 0;stop ((((((1))))))+(((((((2)))))))=1;", 3, 33);
        fine("pin 0 0;stop not [not [1=1] and [[[(1)=1]]]];");
        fault("pin 0 0;stop not [not [1=1] and [[[((1))=1]]]];", 3, 36);
        fault("pin 0 0;stop [not not not not not not 1=1];", 3, 34);
        fine("pin 0 0;stop [[[[[not 1=1 and not 1=1]]]]];");
    }

    private static void notTold() {
        fault("", 4, 0);
        fault("   ", 4, 3);
        fault("stop 1=1;", 4, 9);
        fault("pin 0 0;bar 0 1 5;", 4, 18);
        fault("pin 0 0;bar 0 1 5;  ", 4, 20);
        fault("pin 0 0;wheel 2 5;", 4, 18);
        fault("pin 0 0;pencil 1;", 4, 17);
        fault("pin 0 0;stop x 1=1;", 4, 19);
        fault("pin 0 0;stop 1<y 15;", 4, 20);
        fault("pin 0 0;copy 0 0 2;", 4, 19);
        fault("pin 0 0;arm 0 1 2 1 0;", 4, 22);
        fault("pin 0 0;slot 9 1 0 1 0;", 4, 23);
        fault("pin 0 0;along 0 2 1;", 4, 20);
        fault("pin 0 0;along 2 0 1;", 4, 20);
        fault("pin 0 0;stop x 9=1;pin", 1, 22);
        fine("pencil 1;bar 0 1 7;stop x 1=1;wheel 1 5;pin 3 3;");
        fine("copy 0 0 0;");
        fine("wheel 0 5;");
    }

    private static void blanks() {
        fine("  pin   0   0  ;  pencil   0  ;  ");
        fine("pin 0 0;stop not  [ ( x  0 + 1 ) - y 0  <  3  and  1 = 1 ]  or 2 > 1 ;");
        fine("pin 0 0;");
        fault("p in 0 0;", 1, 0);
        fault("pin 1 9 9;", 1, 8);
        fault("pin 0 0   x;", 1, 10);
        fault("pin 0    200;", 2, 9);
    }

    private static void conditions() {
        fault("pin 0 0;stop x 0;", 1, 16);
        fault("pin 0 0;stop x 0", 1, 16);
        fault("pin 0 0;stop ;", 1, 13);
        fault("pin 0 0;stop x=1;", 1, 14);
        fault("pin 0 0;stop z 0=1;", 1, 13);
        fault("pin 0 0;stop xy 0=1;", 1, 13);
        fault("pin 0 0;stop notx 0=1;", 1, 13);
        fault("pin 0 0;stop x 0==1;", 1, 17);
        fault("pin 0 0;stop x 0<=1;", 1, 17);
        fault("pin 0 0;stop x 0=1=1;", 1, 18);
        fault("pin 0 0;stop x 0=1 xor 1=1;", 1, 19);
        fault("pin 0 0;stop x 0=1 and;", 1, 22);
        fault("pin 0 0;stop x 0=1 and or 1=1;", 1, 23);
        fault("pin 0 0;stop x 0 and 1=1;", 1, 17);
        fault("pin 0 0;stop (x 0=1);", 1, 17);
        fault("pin 0 0;stop [x 0]=1;", 1, 17);
        fault("pin 0 0;stop [x 0=1;", 1, 19);
        fault("pin 0 0;stop [x 0=1", 1, 19);
        fault("pin 0 0;stop (x 0=1;", 1, 17);
        fault("pin 0 0;stop x 0=1];", 1, 18);
        fault("pin 0 0;stop x 0=1);", 1, 18);
        fault("pin 0 0;stop -1=1;", 1, 13);
        fault("pin 0 0;stop 1--1=1;", 1, 15);
        fault("pin 0 0;stop 1+=1;", 1, 15);
        fault("pin 0 0;stop 1=not 1;", 1, 15);
        fault("pin 0 0;stop not;", 1, 16);
        fault("pin 0 0;stop 1=[1];", 1, 15);
        fault("pin 0 0;stop 10000=1;", 2, 13);
        fault("pin 0 0;stop x 16=1;", 2, 15);
        fault("pin 0 0;stop 1 1=1;", 1, 15);
        fault("pin 0 0;stop 1*1=1;", 1, 14);
        fault("pin 0 0;stop 1=1 not 1=1;", 1, 17);
        fine("pin 0 0;stop not 1=1 and not not 2=2 or [1=1 or 2=2] and (1+2)-(3-(4))<x 0+y 0;");
    }
}
