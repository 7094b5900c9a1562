/-- the tables' words that PointTables' constructor wants beside the good ones -/
def nw0_X (U : State) : Prop := va_AO "PointTables$Table" U ∧ va_Nw (.methodLinkNest RX6 15 yX4_init "PointTables") U ∧ va_Nw (.methodLinkNest RX6 22 yX5_init "PointTables") U ∧ va_Nw (.methodLinkNest RX6 29 yX0_init "PointTables") U ∧ va_Nw (.methodLinkNest RX6 36 yX3_init "PointTables") U
