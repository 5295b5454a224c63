/** A small table that many know: fourteen days, by the weather, on which a game was played or not. */
final class Weather {
    static final String NAMES =
            "classes no,yes;outlook:sunny,overcast,rain;temperature:measured;humidity:measured;windy:false,true;";
    static final String ROWS = "sunny,85,85,false,no;sunny,80,90,true,no;overcast,83,78,false,yes;"
            + "rain,70,96,false,yes;rain,68,80,false,yes;rain,65,70,true,no;overcast,64,65,true,yes;"
            + "sunny,72,95,false,no;sunny,69,70,false,yes;rain,75,80,false,yes;sunny,75,70,true,yes;"
            + "overcast,72,90,true,yes;overcast,81,75,false,yes;rain,71,80,true,no;";
    static final String TREE = "by outlook { sunny: by humidity <= 70 is yes else is no overcast: is yes "
            + "rain: by windy { false: is yes true: is no } }";
    static final String HELD = "sunny,99,60,false,yes;rain,60,60,true,yes;rain,70,70,false,no;"
            + "overcast,1,1,true,no;sunny,70,99,true,no;";

    private Weather() {
    }

    static GainTrees grown() {
        GainTrees x = Check.bench(NAMES, ROWS);
        Check.due("grow(0, 1, 60)", x.grow(0, 1, 60), 8);
        return x;
    }

    static GainTrees grownAndHeld() {
        GainTrees x = grown();
        Check.due("rows(1)", Check.tape(x, HELD).rows(1), 5);
        return x;
    }
}
