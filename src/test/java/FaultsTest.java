/** The faults of a text (promises 3, 4): the first along it, of one token the least kind. */
final class FaultsTest {
    private FaultsTest() {
    }

    public static void main(String[] args) {
        noToken();
        misplaced();
        theEnd();
        wordsOfOtherLaws();
        views();
        bounds();
        tooMany();
        firstAlongTheText();
        longTexts();
        Due.end();
    }

    /** The place is where ^ stands in the text, which is taken out. */
    private static void fault(int kind, String marked) {
        int place = marked.indexOf('^');
        String text = marked.replace("^", "");
        OppositeHouse x = new OppositeHouse();
        Due.is("house of " + text, Due.tell(x, text), -30 - kind);
        Due.is("fault of " + text, x.fault(0), kind);
        Due.is("place of " + text, x.fault(1), place);
    }

    private static void sound(String text) {
        OppositeHouse x = new OppositeHouse();
        Due.isTrue("no fault: " + text, Due.tell(x, text) > 0 && x.fault(0) == 0 && x.fault(1) == -1);
    }

    private static void noToken() {
        fault(1, "^House lines 1;");
        fault(1, "house^\tlines 1;");
        fault(1, "house lines 1;^\r\n");
        fault(1, "house lines ^0001;");
        fault(1, "house lines ^1234");
        fault(1, "house lines 1;day ^12345;");
        fault(1, "house lines 1;ayes : ease ^! 3;");
        fault(1, "house lines 1;ayes : ease ^& 3;");
        fault(1, "house lines 1;ayes : 1 = ^1000;");
        fault(1, "house lines 1;^\u00e9;");
        fault(1, "house lines 1;day^_1;");
        fault(1, "house lines 1;person 1^.5;");
        fault(1, "house lines 1;ayes : ease ^{ 3;");
        fault(1, "house lines 1;ayes : ease ^` 3;");
        fault(1, "house lines 1;ayes : ease ^/ 3;");
        fault(1, "house lines 1;ayes : ease = 3 ^, 4;");
    }

    private static void misplaced() {
        fault(2, "^lines 1;");
        fault(2, "^;house lines 1;");
        fault(2, "house ^1;");
        fault(2, "house ^line 1;");
        fault(2, "house lines ^;");
        fault(2, "house lines ^ease;");
        fault(2, "house lines 1 ^day 3;");
        fault(2, "house lines 1;^;");
        fault(2, "house lines 1;^house lines 1;");
        fault(2, "house lines 1;^1;");
        fault(2, "house lines 1;^zaz;");
        fault(2, "house lines 1;^persons 1;");
        fault(2, "house lines 1;day ^;");
        fault(2, "house lines 1;day 1 ^2;");
        fault(2, "house lines 1;day ^- 2;");
        fault(2, "house lines 1;opposes ^ease = 1;");
        fault(2, "house lines 1;opposes : ease ^;");
        fault(2, "house lines 1;opposes : ease = ^;");
        fault(2, "house lines 1;opposes : ease = 1 ^= 2;");
        fault(2, "house lines 1;opposes : ease = 1 and ^;");
        fault(2, "house lines 1;opposes : ease = 1 ^] ;");
        fault(2, "house lines 1;opposes : (ease ^= 1);");
        fault(2, "house lines 1;opposes : [ease = 1^) ;");
        fault(2, "house lines 1;opposes : [ease = 1] ^= 1;");
        fault(2, "house lines 1;opposes : [ease^] = 1;");
        fault(2, "house lines 1;opposes : ease + ^not 1 = 1;");
        fault(2, "house lines 1;opposes : ^and 1 = 1;");
        fault(2, "house lines 1;opposes : not ^and;");
        fault(2, "house lines 1;opposes : 1 = 1 ^not 1 = 1;");
        fault(2, "house lines 1;sways : ^- 1;");
        fault(2, "house lines 1;sways : 1 ^= 1;");
        fault(2, "house lines 1;sways : 1 + ^+ 1;");
        fault(2, "house lines 1;sways : 1 ^2;");
        fault(2, "house lines 1;sways : 1 * (2 ^;");
        fault(2, "house lines 1;sways : (^);");
        fault(2, "house lines 1;sways : ^[1];");
        fault(2, "house lines 1;sways : ^not 1;");
        fault(2, "house lines 1;sways ^;");
        fault(2, "house lines 1;person 1 in 2 ^3;");
        fault(2, "house lines 1;person 1 in 2 to ^;");
        fault(2, "house lines 1;person 1 in ^to 3;");
        fault(2, "house lines 1;person 1 ^to 3;");
        fault(2, "house lines 1;person 1 temper ^;");
        fault(2, "house lines 1;person 1 weight ^temper 3;");
        fault(2, "house lines 1;person 1 temper 1 ^2;");
        fault(2, "house lines 1;person 1 ^person 2;");
        fault(2, "house lines 1;person 1 ^: 2;");
    }

    private static void theEnd() {
        fault(2, "^");
        fault(2, "  \n^");
        fault(2, "house^");
        fault(2, "house lines^");
        fault(2, "house lines 1^");
        fault(2, "house lines 1  ^");
        fault(2, "house lines 1;person^");
        fault(2, "house lines 1;person 1 ^");
        fault(2, "house lines 1;person 1 in 1 to^");
        fault(2, "house lines 1;ayes : 1 = 1^");
        fault(2, "house lines 1;ayes : not^");
        fault(2, "house lines 1;ayes : (^");
        sound("house lines 1;");
        sound("house lines 1; \n");
        sound("house lines 1;ayes:1=1;");
        sound("house lines 3;person 1 2 3;opposes:ease=unease;ayes:bill=who;sways:line-day;day 0;");
    }

    private static void wordsOfOtherLaws() {
        for (String name : new String[] {"ease", "faith", "war", "who", "day"}) {
            sound("house lines 1;opposes : " + name + " = 1;ayes : " + name + " = 1;sways : " + name + ";");
        }
        for (String name : new String[] {"unease", "unfaith", "unwar", "other"}) {
            sound("house lines 1;opposes : " + name + " = 1;sways : " + name + ";");
            fault(2, "house lines 1;ayes : ^" + name + " = 1;");
        }
        sound("house lines 1;ayes : bill = 1;sways : line;");
        fault(2, "house lines 1;opposes : ^bill = 1;");
        fault(2, "house lines 1;sways : ^bill;");
        fault(2, "house lines 1;opposes : 1 + ^line = 1;");
        fault(2, "house lines 1;ayes : 1 = ^line;");
        fault(2, "house lines 1;ayes : 1 = ^lines;");
        fault(2, "house lines 1;ayes : 1 = ^easeday;");
        fault(2, "house lines 1;ayes : 1 = ^eas;");
    }

    private static void views() {
        fault(2, "house lines 1;person ^;");
        fault(2, "house lines 3;person 1 2 ^in 3 to 4;");
        fault(2, "house lines 2;person 1 2 ^3;");
        fault(2, "house lines 2;person 1 2 ^33;");
        fault(1, "house lines 2;person 1 2 ^3333;");
        fault(3, "house lines 2;person 1 ^10;");
        fault(3, "house lines 2;person ^999 10;");
        sound("house lines 2;person 09 000;");
    }

    private static void bounds() {
        fault(3, "house lines ^0;");
        fault(3, "house lines ^4 6;");
        fault(3, "house lines ^000;");
        sound("house lines 003;");
        fault(3, "house lines 1;person 1 temper ^11;");
        sound("house lines 1;person 1 temper 0 temper 10 weight 1 weight 99;");
        fault(3, "house lines 1;person 1 weight ^0;");
        fault(3, "house lines 1;person 1 weight ^100;");
        fault(3, "house lines 1;person 1 in 5 to ^4;");
        sound("house lines 1;person 1 in 5 to 5 in 0 to 999 in 999 to 999;day 999;");
        fault(1, "house lines 1;person 1 in ^1000 to 4;");
    }

    private static void tooMany() {
        String ten = "house lines 1;" + "person 1;".repeat(10);
        sound(ten);
        fault(4, ten + "^person 1;");
        fault(4, ten + "day 1;ayes:1=1; ^person ?");
        sound("house lines 1;ayes : " + "not ".repeat(6) + "1 = 1;");
        fault(4, "house lines 1;ayes : " + "not ".repeat(6) + "^not 1 = 1;");
        sound("house lines 1;ayes : " + "[".repeat(6) + "1 = 1" + "]".repeat(6) + ";");
        fault(4, "house lines 1;ayes : " + "[".repeat(6) + "^[1 = 1;");
        sound("house lines 1;sways : " + "(".repeat(6) + "1" + ")".repeat(6) + ";");
        fault(4, "house lines 1;sways : " + "(".repeat(6) + "^(1;");
        fault(4, "house lines 1;ayes : not [ not [ ( ( ^( ?");
        fault(4, "house lines 1;ayes : not not not not not not ^( 1 ) = 1;");
        fault(4, "house lines 1;ayes : ( ( ( ( ( ( 1 ) ) ) ) ) ) = ( ( ( ( ( ( ^( 1;");
        sound("house lines 1;ayes : not not not not not not 1 = 1 and not 1 = 1;");
        sound("house lines 1;ayes : [[[[[[1 = 1]]]]]] or [[[[[[1 = 1]]]]]];");
        sound("house lines 1;sways : ((((((1)))))) * ((((((1)))))) - ((((((1 + 1))))));");
        fault(2, "house lines 1;sways : ((((((1 ^( 1;");
        fault(2, "house lines 1;sways : ((((((^[ 1;");
        fault(2, "house lines 1;ayes : [[[[[[1 = 1 ^[;");
        fault(2, "house lines 1;sways : ((((((1)))))^;");
    }

    private static void longTexts() {
        fault(2, "^" + ";".repeat(900));
        fault(2, "house lines 1;^" + ";".repeat(886));
        String sum = "house lines 1;person 1;person 1;sways:0" + "+1".repeat(430) + ";";
        Due.is("as long as a text can be", sum.length(), 900);
        sound(sum);
        OppositeHouse x = Due.told(sum);
        x.talk(0, 1);
        Due.is("its law", x.person(0, 0), 2);
        x = Due.told(sum.replace("0+1", "0-1").replace("+1", "-0"));
        x.talk(0, 1);
        Due.is("its law", x.person(0, 0), 0);
        fault(2, "house lines 1;" + " ".repeat(885) + "^1");
        sound("house lines 1;" + " ".repeat(886));
    }

    private static void firstAlongTheText() {
        fault(2, "house lines 1;day ^; ? person");
        fault(3, "house lines ^9; ?");
        fault(2, "house lines 1;^door ?");
        fault(1, "house lines 1;ayes : ease ^? 1;");
        fault(1, "house lines 2;person 1 ^? 1;");
        fault(3, "house lines 2;person 1 ^99 ?;");
    }
}
