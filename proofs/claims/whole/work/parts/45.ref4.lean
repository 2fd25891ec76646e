def f_X7_tries_J192 (o_number : Int64) (o_fields_f : (Nat → Int32)) (p0 : Int32) (x190 : Int32) (x191 : (Nat → Int32)) : Int32 × Int32 × (Nat → Int32) := (match (f_X7_putAll x190 x191 o_number (f_X7_room (rNums (p0).toNatClampNeg) (o_fields_f ((1 : Int32)).toNatClampNeg))) with | (y193, y194) => ((1 : Int32), y193, y194))
def f_X7_tries_J173 (o_number : Int64) (o_fields_f : (Nat → Int32)) (p0 : Int32) (x118 : Int32) (x119 : Int32) (x122 : Int32) (x160 : Int32) (x161 : (Nat → Int32)) (x172 : Int32) : Int32 × Int32 × (Nat → Int32) := (match (f_X7_put x160 x161 x172) with | (y174, y175) => (if (f_X7_hasForm (rPats (p0).toNatClampNeg)) = 0 then (if (f_X7_hasForm (rPats (p0).toNatClampNeg)) = 0 then (f_X7_tries_J192 o_number o_fields_f p0 y174 y175) else (match (f_X7_put y174 y175 (((192 : Int32) + ((8 : Int32) * x119)) + x118)) with | (y179, y180) => f_X7_tries_J192 o_number o_fields_f p0 y179 y180)) else (if x122 = 0 then (if (f_X7_hasForm (rPats (p0).toNatClampNeg)) = 0 then (f_X7_tries_J192 o_number o_fields_f p0 y174 y175) else (match (f_X7_put y174 y175 (((192 : Int32) + ((8 : Int32) * x119)) + x118)) with | (y184, y185) => f_X7_tries_J192 o_number o_fields_f p0 y184 y185)) else (match (f_X7_putMemory y174 o_fields_f y175 x119) with | (y187, y188) => f_X7_tries_J192 o_number o_fields_f p0 y187 y188))))
def f_X7_tries_J169 (o_number : Int64) (o_fields_f : (Nat → Int32)) (p0 : Int32) (x118 : Int32) (x119 : Int32) (x122 : Int32) (x160 : Int32) (x161 : (Nat → Int32)) (x165 : Int32) (x168 : Int32) : Int32 × Int32 × (Nat → Int32) := ((if (rPats (p0).toNatClampNeg) = (5 : Int32) then (f_X7_tries_J173 o_number o_fields_f p0 x118 x119 x122 x160 x161 ((((rCodes (p0).toNatClampNeg) + x165) + x168) + x118)) else (if (rPats (p0).toNatClampNeg) = (6 : Int32) then (f_X7_tries_J173 o_number o_fields_f p0 x118 x119 x122 x160 x161 ((((rCodes (p0).toNatClampNeg) + x165) + x168) + x118)) else (f_X7_tries_J173 o_number o_fields_f p0 x118 x119 x122 x160 x161 (((rCodes (p0).toNatClampNeg) + x165) + x168)))))
def f_X7_tries_J166 (o_number : Int64) (o_fields_f : (Nat → Int32)) (p0 : Int32) (x118 : Int32) (x119 : Int32) (x122 : Int32) (x160 : Int32) (x161 : (Nat → Int32)) (x165 : Int32) : Int32 × Int32 × (Nat → Int32) := ((if (f_X7_conditional (rOps (p0).toNatClampNeg)) = 0 then (f_X7_tries_J169 o_number o_fields_f p0 x118 x119 x122 x160 x161 x165 (0 : Int32)) else (f_X7_tries_J169 o_number o_fields_f p0 x118 x119 x122 x160 x161 x165 (o_fields_f ((2 : Int32)).toNatClampNeg))))
def f_X7_tries_J162 (o_number : Int64) (o_fields_f : (Nat → Int32)) (p0 : Int32) (x118 : Int32) (x119 : Int32) (x122 : Int32) (x160 : Int32) (x161 : (Nat → Int32)) : Int32 × Int32 × (Nat → Int32) := ((if (rSizes (p0).toNatClampNeg) = 0 then (if (o_fields_f ((1 : Int32)).toNatClampNeg) = (1 : Int32) then (f_X7_tries_J166 o_number o_fields_f p0 x118 x119 x122 x160 x161 (0 : Int32)) else (f_X7_tries_J166 o_number o_fields_f p0 x118 x119 x122 x160 x161 (1 : Int32))) else (f_X7_tries_J166 o_number o_fields_f p0 x118 x119 x122 x160 x161 (0 : Int32))))
def f_X7_tries_J155 (o_number : Int64) (o_fields_f : (Nat → Int32)) (p0 : Int32) (x118 : Int32) (x119 : Int32) (x122 : Int32) (x153 : Int32) (x154 : (Nat → Int32)) : Int32 × Int32 × (Nat → Int32) := ((if (rLeads (p0).toNatClampNeg) = (15 : Int32) then (match (f_X7_put x153 x154 (15 : Int32)) with | (y157, y158) => f_X7_tries_J162 o_number o_fields_f p0 x118 x119 x122 y157 y158) else (f_X7_tries_J162 o_number o_fields_f p0 x118 x119 x122 x153 x154)))
def f_X7_tries_J144 (o_number : Int64) (o_fields_f : (Nat → Int32)) (p0 : Int32) (x118 : Int32) (x119 : Int32) (x121 : Int32) (x122 : Int32) (x136 : Int32) (x142 : Int32) (x143 : (Nat → Int32)) : Int32 × Int32 × (Nat → Int32) := ((if x121 = 0 then (if x136 ≤ 0 then (f_X7_tries_J155 o_number o_fields_f p0 x118 x119 x122 x142 x143) else (match (f_X7_put x142 x143 ((64 : Int32) + x136)) with | (y150, y151) => f_X7_tries_J155 o_number o_fields_f p0 x118 x119 x122 y150 y151)) else (match (f_X7_put x142 x143 ((64 : Int32) + x136)) with | (y146, y147) => f_X7_tries_J155 o_number o_fields_f p0 x118 x119 x122 y146 y147)))
def f_X7_tries_J137 (o_number : Int64) (o_fields_f : (Nat → Int32)) (o_trial_f : (Nat → Int32)) (p0 : Int32) (x118 : Int32) (x119 : Int32) (x121 : Int32) (x122 : Int32) (x136 : Int32) : Int32 × Int32 × (Nat → Int32) := ((if (rLeads (p0).toNatClampNeg) = (243 : Int32) then (match (f_X7_put (0 : Int32) o_trial_f (243 : Int32)) with | (y139, y140) => f_X7_tries_J144 o_number o_fields_f p0 x118 x119 x121 x122 x136 y139 y140) else (f_X7_tries_J144 o_number o_fields_f p0 x118 x119 x121 x122 x136 (0 : Int32) o_trial_f)))
def f_X7_tries_J133 (o_number : Int64) (o_fields_f : (Nat → Int32)) (o_trial_f : (Nat → Int32)) (p0 : Int32) (x118 : Int32) (x119 : Int32) (x121 : Int32) (x122 : Int32) (x132 : Int32) : Int32 × Int32 × (Nat → Int32) := ((if x122 = 0 then (f_X7_tries_J137 o_number o_fields_f o_trial_f p0 x118 x119 x121 x122 x132) else (if (o_fields_f ((10 : Int32)).toNatClampNeg) ≤ (7 : Int32) then (f_X7_tries_J137 o_number o_fields_f o_trial_f p0 x118 x119 x121 x122 x132) else (f_X7_tries_J137 o_number o_fields_f o_trial_f p0 x118 x119 x121 x122 (x132 ||| (2 : Int32))))))
def f_X7_tries_J128 (o_number : Int64) (o_fields_f : (Nat → Int32)) (o_trial_f : (Nat → Int32)) (p0 : Int32) (x118 : Int32) (x119 : Int32) (x120 : Int32) (x121 : Int32) (x122 : Int32) : Int32 × Int32 × (Nat → Int32) := ((if x122 = 0 then (f_X7_tries_J133 o_number o_fields_f o_trial_f p0 x118 x119 x121 x122 x120) else (if (o_fields_f ((9 : Int32)).toNatClampNeg) ≤ (7 : Int32) then (f_X7_tries_J133 o_number o_fields_f o_trial_f p0 x118 x119 x121 x122 x120) else (if (16 : Int32) ≤ (o_fields_f ((9 : Int32)).toNatClampNeg) then (f_X7_tries_J133 o_number o_fields_f o_trial_f p0 x118 x119 x121 x122 x120) else (f_X7_tries_J133 o_number o_fields_f o_trial_f p0 x118 x119 x121 x122 (x120 ||| (1 : Int32)))))))
def f_X7_tries_J124 (o_number : Int64) (o_tried : Int32) (o_fields_f : (Nat → Int32)) (o_trial_f : (Nat → Int32)) (p0 : Int32) (x117 : Int32) (x118 : Int32) (x119 : Int32) (x120 : Int32) (x121 : Int32) (x122 : Int32) (x123 : Int32) : Int32 × Int32 × (Nat → Int32) := (if x123 = 0 then (((0 : Int32), o_tried, o_trial_f)) else ((if x122 = 0 then (f_X7_tries_J128 o_number o_fields_f o_trial_f p0 x118 x119 x120 x121 x122) else (if (f_X7_isMemory o_fields_f) = 0 then (((0 : Int32), o_tried, o_trial_f)) else (f_X7_tries_J128 o_number o_fields_f o_trial_f p0 x118 x119 x120 x121 x122)))))
def f_X7_tries_J116 (o_number : Int64) (o_tried : Int32) (o_fields_f : (Nat → Int32)) (o_trial_f : (Nat → Int32)) (p0 : Int32) (x88 : Int32) (x100 : Int32) (x107 : Int32) (x111 : Int32) (x115 : Int32) : Int32 × Int32 × (Nat → Int32) := (f_X7_tries_J124 o_number o_tried o_fields_f o_trial_f p0 (3 : Int32) x115 x111 x107 x100 x88 (f_X7_suits o_number o_fields_f p0 (2 : Int32) (o_fields_f ((7 : Int32)).toNatClampNeg) (o_fields_f ((8 : Int32)).toNatClampNeg)))
def f_X7_tries_J112 (o_number : Int64) (o_tried : Int32) (o_fields_f : (Nat → Int32)) (o_trial_f : (Nat → Int32)) (p0 : Int32) (x83 : Int32) (x88 : Int32) (x94 : Int32) (x100 : Int32) (x107 : Int32) (x111 : Int32) : Int32 × Int32 × (Nat → Int32) := ((if x94 = 0 then (f_X7_tries_J116 o_number o_tried o_fields_f o_trial_f p0 x88 x100 x107 x111 x83) else (if (f_X7_place (rPats (p0).toNatClampNeg) (2 : Int32)) = (1 : Int32) then (f_X7_tries_J116 o_number o_tried o_fields_f o_trial_f p0 x88 x100 x107 x111 x83) else (f_X7_tries_J116 o_number o_tried o_fields_f o_trial_f p0 x88 x100 x107 x111 ((o_fields_f ((8 : Int32)).toNatClampNeg) &&& (7 : Int32))))))
def f_X7_tries_J108 (o_number : Int64) (o_tried : Int32) (o_fields_f : (Nat → Int32)) (o_trial_f : (Nat → Int32)) (p0 : Int32) (x79 : Int32) (x83 : Int32) (x88 : Int32) (x94 : Int32) (x100 : Int32) (x107 : Int32) : Int32 × Int32 × (Nat → Int32) := ((if x94 = 0 then (f_X7_tries_J112 o_number o_tried o_fields_f o_trial_f p0 x83 x88 x94 x100 x107 x79) else (if (f_X7_place (rPats (p0).toNatClampNeg) (2 : Int32)) = (1 : Int32) then (f_X7_tries_J112 o_number o_tried o_fields_f o_trial_f p0 x83 x88 x94 x100 x107 ((o_fields_f ((8 : Int32)).toNatClampNeg) &&& (7 : Int32))) else (f_X7_tries_J112 o_number o_tried o_fields_f o_trial_f p0 x83 x88 x94 x100 x107 x79))))
def f_X7_tries_J106 (o_number : Int64) (o_tried : Int32) (o_fields_f : (Nat → Int32)) (o_trial_f : (Nat → Int32)) (p0 : Int32) (x75 : Int32) (x79 : Int32) (x83 : Int32) (x88 : Int32) (x94 : Int32) (x100 : Int32) (x105 : Int32) : Int32 × Int32 × (Nat → Int32) := (f_X7_tries_J108 o_number o_tried o_fields_f o_trial_f p0 x79 x83 x88 x94 x100 (x75 ||| x105))
def f_X7_tries_J101 (o_number : Int64) (o_tried : Int32) (o_fields_f : (Nat → Int32)) (o_trial_f : (Nat → Int32)) (p0 : Int32) (x75 : Int32) (x79 : Int32) (x83 : Int32) (x88 : Int32) (x94 : Int32) (x100 : Int32) : Int32 × Int32 × (Nat → Int32) := ((if x94 = 0 then (f_X7_tries_J108 o_number o_tried o_fields_f o_trial_f p0 x79 x83 x88 x94 x100 x75) else (if (o_fields_f ((8 : Int32)).toNatClampNeg) ≤ (7 : Int32) then (f_X7_tries_J108 o_number o_tried o_fields_f o_trial_f p0 x79 x83 x88 x94 x100 x75) else ((if (f_X7_place (rPats (p0).toNatClampNeg) (2 : Int32)) = (1 : Int32) then (f_X7_tries_J106 o_number o_tried o_fields_f o_trial_f p0 x75 x79 x83 x88 x94 x100 (4 : Int32)) else (f_X7_tries_J106 o_number o_tried o_fields_f o_trial_f p0 x75 x79 x83 x88 x94 x100 (1 : Int32)))))))
def f_X7_tries_J95 (o_number : Int64) (o_tried : Int32) (o_fields_f : (Nat → Int32)) (o_trial_f : (Nat → Int32)) (p0 : Int32) (x68 : Int32) (x75 : Int32) (x79 : Int32) (x83 : Int32) (x88 : Int32) (x94 : Int32) : Int32 × Int32 × (Nat → Int32) := ((if x94 = 0 then (f_X7_tries_J101 o_number o_tried o_fields_f o_trial_f p0 x75 x79 x83 x88 x94 x68) else (if (f_X7_width p0 (f_X7_place (rPats (p0).toNatClampNeg) (2 : Int32)) (o_fields_f ((1 : Int32)).toNatClampNeg)) = (1 : Int32) then (if (o_fields_f ((8 : Int32)).toNatClampNeg) ≤ (3 : Int32) then (f_X7_tries_J101 o_number o_tried o_fields_f o_trial_f p0 x75 x79 x83 x88 x94 x68) else (if (8 : Int32) ≤ (o_fields_f ((8 : Int32)).toNatClampNeg) then (f_X7_tries_J101 o_number o_tried o_fields_f o_trial_f p0 x75 x79 x83 x88 x94 x68) else (f_X7_tries_J101 o_number o_tried o_fields_f o_trial_f p0 x75 x79 x83 x88 x94 (1 : Int32)))) else (f_X7_tries_J101 o_number o_tried o_fields_f o_trial_f p0 x75 x79 x83 x88 x94 x68))))
def f_X7_tries_J89 (o_number : Int64) (o_tried : Int32) (o_fields_f : (Nat → Int32)) (o_trial_f : (Nat → Int32)) (p0 : Int32) (x68 : Int32) (x75 : Int32) (x79 : Int32) (x83 : Int32) (x88 : Int32) : Int32 × Int32 × (Nat → Int32) := ((if (o_fields_f ((7 : Int32)).toNatClampNeg) = (1 : Int32) then (if (f_X7_place (rPats (p0).toNatClampNeg) (2 : Int32)) = (1 : Int32) then (f_X7_tries_J95 o_number o_tried o_fields_f o_trial_f p0 x68 x75 x79 x83 x88 (1 : Int32)) else (if (f_X7_place (rPats (p0).toNatClampNeg) (2 : Int32)) = (2 : Int32) then (f_X7_tries_J95 o_number o_tried o_fields_f o_trial_f p0 x68 x75 x79 x83 x88 (1 : Int32)) else (if (f_X7_place (rPats (p0).toNatClampNeg) (2 : Int32)) = (5 : Int32) then (f_X7_tries_J95 o_number o_tried o_fields_f o_trial_f p0 x68 x75 x79 x83 x88 (1 : Int32)) else (f_X7_tries_J95 o_number o_tried o_fields_f o_trial_f p0 x68 x75 x79 x83 x88 (0 : Int32))))) else (f_X7_tries_J95 o_number o_tried o_fields_f o_trial_f p0 x68 x75 x79 x83 x88 (0 : Int32))))
def f_X7_tries_J84 (o_number : Int64) (o_tried : Int32) (o_fields_f : (Nat → Int32)) (o_trial_f : (Nat → Int32)) (p0 : Int32) (x56 : Int32) (x68 : Int32) (x75 : Int32) (x79 : Int32) (x83 : Int32) : Int32 × Int32 × (Nat → Int32) := (if (f_X7_suits o_number o_fields_f p0 (1 : Int32) (o_fields_f ((5 : Int32)).toNatClampNeg) (o_fields_f ((6 : Int32)).toNatClampNeg)) = 0 then (f_X7_tries_J124 o_number o_tried o_fields_f o_trial_f p0 (2 : Int32) x83 x79 x75 x68 x56 (f_X7_suits o_number o_fields_f p0 (1 : Int32) (o_fields_f ((5 : Int32)).toNatClampNeg) (o_fields_f ((6 : Int32)).toNatClampNeg))) else ((if x56 = 0 then (if (o_fields_f ((7 : Int32)).toNatClampNeg) = (2 : Int32) then (f_X7_tries_J89 o_number o_tried o_fields_f o_trial_f p0 x68 x75 x79 x83 (1 : Int32)) else (f_X7_tries_J89 o_number o_tried o_fields_f o_trial_f p0 x68 x75 x79 x83 (0 : Int32))) else (f_X7_tries_J89 o_number o_tried o_fields_f o_trial_f p0 x68 x75 x79 x83 (1 : Int32)))))
def f_X7_tries_J80 (o_number : Int64) (o_tried : Int32) (o_fields_f : (Nat → Int32)) (o_trial_f : (Nat → Int32)) (p0 : Int32) (x51 : Int32) (x56 : Int32) (x62 : Int32) (x68 : Int32) (x75 : Int32) (x79 : Int32) : Int32 × Int32 × (Nat → Int32) := ((if x62 = 0 then (f_X7_tries_J84 o_number o_tried o_fields_f o_trial_f p0 x56 x68 x75 x79 x51) else (if (f_X7_place (rPats (p0).toNatClampNeg) (1 : Int32)) = (1 : Int32) then (f_X7_tries_J84 o_number o_tried o_fields_f o_trial_f p0 x56 x68 x75 x79 x51) else (f_X7_tries_J84 o_number o_tried o_fields_f o_trial_f p0 x56 x68 x75 x79 ((o_fields_f ((6 : Int32)).toNatClampNeg) &&& (7 : Int32))))))
def f_X7_tries_J76 (o_number : Int64) (o_tried : Int32) (o_fields_f : (Nat → Int32)) (o_trial_f : (Nat → Int32)) (p0 : Int32) (x47 : Int32) (x51 : Int32) (x56 : Int32) (x62 : Int32) (x68 : Int32) (x75 : Int32) : Int32 × Int32 × (Nat → Int32) := ((if x62 = 0 then (f_X7_tries_J80 o_number o_tried o_fields_f o_trial_f p0 x51 x56 x62 x68 x75 x47) else (if (f_X7_place (rPats (p0).toNatClampNeg) (1 : Int32)) = (1 : Int32) then (f_X7_tries_J80 o_number o_tried o_fields_f o_trial_f p0 x51 x56 x62 x68 x75 ((o_fields_f ((6 : Int32)).toNatClampNeg) &&& (7 : Int32))) else (f_X7_tries_J80 o_number o_tried o_fields_f o_trial_f p0 x51 x56 x62 x68 x75 x47))))
def f_X7_tries_J74 (o_number : Int64) (o_tried : Int32) (o_fields_f : (Nat → Int32)) (o_trial_f : (Nat → Int32)) (p0 : Int32) (x43 : Int32) (x47 : Int32) (x51 : Int32) (x56 : Int32) (x62 : Int32) (x68 : Int32) (x73 : Int32) : Int32 × Int32 × (Nat → Int32) := (f_X7_tries_J76 o_number o_tried o_fields_f o_trial_f p0 x47 x51 x56 x62 x68 (x43 ||| x73))
def f_X7_tries_J69 (o_number : Int64) (o_tried : Int32) (o_fields_f : (Nat → Int32)) (o_trial_f : (Nat → Int32)) (p0 : Int32) (x43 : Int32) (x47 : Int32) (x51 : Int32) (x56 : Int32) (x62 : Int32) (x68 : Int32) : Int32 × Int32 × (Nat → Int32) := ((if x62 = 0 then (f_X7_tries_J76 o_number o_tried o_fields_f o_trial_f p0 x47 x51 x56 x62 x68 x43) else (if (o_fields_f ((6 : Int32)).toNatClampNeg) ≤ (7 : Int32) then (f_X7_tries_J76 o_number o_tried o_fields_f o_trial_f p0 x47 x51 x56 x62 x68 x43) else ((if (f_X7_place (rPats (p0).toNatClampNeg) (1 : Int32)) = (1 : Int32) then (f_X7_tries_J74 o_number o_tried o_fields_f o_trial_f p0 x43 x47 x51 x56 x62 x68 (4 : Int32)) else (f_X7_tries_J74 o_number o_tried o_fields_f o_trial_f p0 x43 x47 x51 x56 x62 x68 (1 : Int32)))))))
def f_X7_tries_J63 (o_number : Int64) (o_tried : Int32) (o_fields_f : (Nat → Int32)) (o_trial_f : (Nat → Int32)) (p0 : Int32) (x36 : Int32) (x43 : Int32) (x47 : Int32) (x51 : Int32) (x56 : Int32) (x62 : Int32) : Int32 × Int32 × (Nat → Int32) := ((if x62 = 0 then (f_X7_tries_J69 o_number o_tried o_fields_f o_trial_f p0 x43 x47 x51 x56 x62 x36) else (if (f_X7_width p0 (f_X7_place (rPats (p0).toNatClampNeg) (1 : Int32)) (o_fields_f ((1 : Int32)).toNatClampNeg)) = (1 : Int32) then (if (o_fields_f ((6 : Int32)).toNatClampNeg) ≤ (3 : Int32) then (f_X7_tries_J69 o_number o_tried o_fields_f o_trial_f p0 x43 x47 x51 x56 x62 x36) else (if (8 : Int32) ≤ (o_fields_f ((6 : Int32)).toNatClampNeg) then (f_X7_tries_J69 o_number o_tried o_fields_f o_trial_f p0 x43 x47 x51 x56 x62 x36) else (f_X7_tries_J69 o_number o_tried o_fields_f o_trial_f p0 x43 x47 x51 x56 x62 (1 : Int32)))) else (f_X7_tries_J69 o_number o_tried o_fields_f o_trial_f p0 x43 x47 x51 x56 x62 x36))))
def f_X7_tries_J57 (o_number : Int64) (o_tried : Int32) (o_fields_f : (Nat → Int32)) (o_trial_f : (Nat → Int32)) (p0 : Int32) (x36 : Int32) (x43 : Int32) (x47 : Int32) (x51 : Int32) (x56 : Int32) : Int32 × Int32 × (Nat → Int32) := ((if (o_fields_f ((5 : Int32)).toNatClampNeg) = (1 : Int32) then (if (f_X7_place (rPats (p0).toNatClampNeg) (1 : Int32)) = (1 : Int32) then (f_X7_tries_J63 o_number o_tried o_fields_f o_trial_f p0 x36 x43 x47 x51 x56 (1 : Int32)) else (if (f_X7_place (rPats (p0).toNatClampNeg) (1 : Int32)) = (2 : Int32) then (f_X7_tries_J63 o_number o_tried o_fields_f o_trial_f p0 x36 x43 x47 x51 x56 (1 : Int32)) else (if (f_X7_place (rPats (p0).toNatClampNeg) (1 : Int32)) = (5 : Int32) then (f_X7_tries_J63 o_number o_tried o_fields_f o_trial_f p0 x36 x43 x47 x51 x56 (1 : Int32)) else (f_X7_tries_J63 o_number o_tried o_fields_f o_trial_f p0 x36 x43 x47 x51 x56 (0 : Int32))))) else (f_X7_tries_J63 o_number o_tried o_fields_f o_trial_f p0 x36 x43 x47 x51 x56 (0 : Int32))))
def f_X7_tries_J52 (o_number : Int64) (o_tried : Int32) (o_fields_f : (Nat → Int32)) (o_trial_f : (Nat → Int32)) (p0 : Int32) (x24 : Int32) (x36 : Int32) (x43 : Int32) (x47 : Int32) (x51 : Int32) : Int32 × Int32 × (Nat → Int32) := (if (f_X7_suits o_number o_fields_f p0 (0 : Int32) (o_fields_f ((3 : Int32)).toNatClampNeg) (o_fields_f ((4 : Int32)).toNatClampNeg)) = 0 then (f_X7_tries_J124 o_number o_tried o_fields_f o_trial_f p0 (1 : Int32) x51 x47 x43 x36 x24 (f_X7_suits o_number o_fields_f p0 (0 : Int32) (o_fields_f ((3 : Int32)).toNatClampNeg) (o_fields_f ((4 : Int32)).toNatClampNeg))) else ((if x24 = 0 then (if (o_fields_f ((5 : Int32)).toNatClampNeg) = (2 : Int32) then (f_X7_tries_J57 o_number o_tried o_fields_f o_trial_f p0 x36 x43 x47 x51 (1 : Int32)) else (f_X7_tries_J57 o_number o_tried o_fields_f o_trial_f p0 x36 x43 x47 x51 (0 : Int32))) else (f_X7_tries_J57 o_number o_tried o_fields_f o_trial_f p0 x36 x43 x47 x51 (1 : Int32)))))
def f_X7_tries_J48 (o_number : Int64) (o_tried : Int32) (o_fields_f : (Nat → Int32)) (o_trial_f : (Nat → Int32)) (p0 : Int32) (x24 : Int32) (x30 : Int32) (x36 : Int32) (x43 : Int32) (x47 : Int32) : Int32 × Int32 × (Nat → Int32) := ((if x30 = 0 then (f_X7_tries_J52 o_number o_tried o_fields_f o_trial_f p0 x24 x36 x43 x47 (0 : Int32)) else (if (f_X7_place (rPats (p0).toNatClampNeg) (0 : Int32)) = (1 : Int32) then (f_X7_tries_J52 o_number o_tried o_fields_f o_trial_f p0 x24 x36 x43 x47 (0 : Int32)) else (f_X7_tries_J52 o_number o_tried o_fields_f o_trial_f p0 x24 x36 x43 x47 ((o_fields_f ((4 : Int32)).toNatClampNeg) &&& (7 : Int32))))))
def f_X7_tries_J44 (o_number : Int64) (o_tried : Int32) (o_fields_f : (Nat → Int32)) (o_trial_f : (Nat → Int32)) (p0 : Int32) (x20 : Int32) (x24 : Int32) (x30 : Int32) (x36 : Int32) (x43 : Int32) : Int32 × Int32 × (Nat → Int32) := ((if x30 = 0 then (f_X7_tries_J48 o_number o_tried o_fields_f o_trial_f p0 x24 x30 x36 x43 x20) else (if (f_X7_place (rPats (p0).toNatClampNeg) (0 : Int32)) = (1 : Int32) then (f_X7_tries_J48 o_number o_tried o_fields_f o_trial_f p0 x24 x30 x36 x43 ((o_fields_f ((4 : Int32)).toNatClampNeg) &&& (7 : Int32))) else (f_X7_tries_J48 o_number o_tried o_fields_f o_trial_f p0 x24 x30 x36 x43 x20))))
def f_X7_tries_J42 (o_number : Int64) (o_tried : Int32) (o_fields_f : (Nat → Int32)) (o_trial_f : (Nat → Int32)) (p0 : Int32) (x17 : Int32) (x20 : Int32) (x24 : Int32) (x30 : Int32) (x36 : Int32) (x41 : Int32) : Int32 × Int32 × (Nat → Int32) := (f_X7_tries_J44 o_number o_tried o_fields_f o_trial_f p0 x20 x24 x30 x36 (x17 ||| x41))
def f_X7_tries_J37 (o_number : Int64) (o_tried : Int32) (o_fields_f : (Nat → Int32)) (o_trial_f : (Nat → Int32)) (p0 : Int32) (x17 : Int32) (x20 : Int32) (x24 : Int32) (x30 : Int32) (x36 : Int32) : Int32 × Int32 × (Nat → Int32) := ((if x30 = 0 then (f_X7_tries_J44 o_number o_tried o_fields_f o_trial_f p0 x20 x24 x30 x36 x17) else (if (o_fields_f ((4 : Int32)).toNatClampNeg) ≤ (7 : Int32) then (f_X7_tries_J44 o_number o_tried o_fields_f o_trial_f p0 x20 x24 x30 x36 x17) else ((if (f_X7_place (rPats (p0).toNatClampNeg) (0 : Int32)) = (1 : Int32) then (f_X7_tries_J42 o_number o_tried o_fields_f o_trial_f p0 x17 x20 x24 x30 x36 (4 : Int32)) else (f_X7_tries_J42 o_number o_tried o_fields_f o_trial_f p0 x17 x20 x24 x30 x36 (1 : Int32)))))))
def f_X7_tries_J31 (o_number : Int64) (o_tried : Int32) (o_fields_f : (Nat → Int32)) (o_trial_f : (Nat → Int32)) (p0 : Int32) (x14 : Int32) (x17 : Int32) (x20 : Int32) (x24 : Int32) (x30 : Int32) : Int32 × Int32 × (Nat → Int32) := ((if x30 = 0 then (f_X7_tries_J37 o_number o_tried o_fields_f o_trial_f p0 x17 x20 x24 x30 x14) else (if (f_X7_width p0 (f_X7_place (rPats (p0).toNatClampNeg) (0 : Int32)) (o_fields_f ((1 : Int32)).toNatClampNeg)) = (1 : Int32) then (if (o_fields_f ((4 : Int32)).toNatClampNeg) ≤ (3 : Int32) then (f_X7_tries_J37 o_number o_tried o_fields_f o_trial_f p0 x17 x20 x24 x30 x14) else (if (8 : Int32) ≤ (o_fields_f ((4 : Int32)).toNatClampNeg) then (f_X7_tries_J37 o_number o_tried o_fields_f o_trial_f p0 x17 x20 x24 x30 x14) else (f_X7_tries_J37 o_number o_tried o_fields_f o_trial_f p0 x17 x20 x24 x30 (1 : Int32)))) else (f_X7_tries_J37 o_number o_tried o_fields_f o_trial_f p0 x17 x20 x24 x30 x14))))
def f_X7_tries_J25 (o_number : Int64) (o_tried : Int32) (o_fields_f : (Nat → Int32)) (o_trial_f : (Nat → Int32)) (p0 : Int32) (x14 : Int32) (x17 : Int32) (x20 : Int32) (x24 : Int32) : Int32 × Int32 × (Nat → Int32) := ((if (o_fields_f ((3 : Int32)).toNatClampNeg) = (1 : Int32) then (if (f_X7_place (rPats (p0).toNatClampNeg) (0 : Int32)) = (1 : Int32) then (f_X7_tries_J31 o_number o_tried o_fields_f o_trial_f p0 x14 x17 x20 x24 (1 : Int32)) else (if (f_X7_place (rPats (p0).toNatClampNeg) (0 : Int32)) = (2 : Int32) then (f_X7_tries_J31 o_number o_tried o_fields_f o_trial_f p0 x14 x17 x20 x24 (1 : Int32)) else (if (f_X7_place (rPats (p0).toNatClampNeg) (0 : Int32)) = (5 : Int32) then (f_X7_tries_J31 o_number o_tried o_fields_f o_trial_f p0 x14 x17 x20 x24 (1 : Int32)) else (f_X7_tries_J31 o_number o_tried o_fields_f o_trial_f p0 x14 x17 x20 x24 (0 : Int32))))) else (f_X7_tries_J31 o_number o_tried o_fields_f o_trial_f p0 x14 x17 x20 x24 (0 : Int32))))
def f_X7_tries_J21 (o_number : Int64) (o_tried : Int32) (o_fields_f : (Nat → Int32)) (o_trial_f : (Nat → Int32)) (p0 : Int32) (x7 : Int32) (x14 : Int32) (x17 : Int32) (x20 : Int32) : Int32 × Int32 × (Nat → Int32) := ((if x7 = 0 then (f_X7_tries_J124 o_number o_tried o_fields_f o_trial_f p0 (0 : Int32) (0 : Int32) x20 x17 x14 (0 : Int32) x7) else ((if (o_fields_f ((3 : Int32)).toNatClampNeg) = (2 : Int32) then (f_X7_tries_J25 o_number o_tried o_fields_f o_trial_f p0 x14 x17 x20 (1 : Int32)) else (f_X7_tries_J25 o_number o_tried o_fields_f o_trial_f p0 x14 x17 x20 (0 : Int32))))))
def f_X7_tries_J18 (o_number : Int64) (o_tried : Int32) (o_fields_f : (Nat → Int32)) (o_trial_f : (Nat → Int32)) (p0 : Int32) (x7 : Int32) (x14 : Int32) (x17 : Int32) : Int32 × Int32 × (Nat → Int32) := ((if (8 : Int32) ≤ (rTells (p0).toNatClampNeg) then (f_X7_tries_J21 o_number o_tried o_fields_f o_trial_f p0 x7 x14 x17 (0 : Int32)) else (f_X7_tries_J21 o_number o_tried o_fields_f o_trial_f p0 x7 x14 x17 (rTells (p0).toNatClampNeg))))
def f_X7_tries_J15 (o_number : Int64) (o_tried : Int32) (o_fields_f : (Nat → Int32)) (o_trial_f : (Nat → Int32)) (p0 : Int32) (x7 : Int32) (x14 : Int32) : Int32 × Int32 × (Nat → Int32) := ((if x14 = 0 then (f_X7_tries_J18 o_number o_tried o_fields_f o_trial_f p0 x7 x14 (0 : Int32)) else (f_X7_tries_J18 o_number o_tried o_fields_f o_trial_f p0 x7 x14 (8 : Int32))))
def f_X7_tries_J8 (o_number : Int64) (o_tried : Int32) (o_fields_f : (Nat → Int32)) (o_trial_f : (Nat → Int32)) (p0 : Int32) (x7 : Int32) : Int32 × Int32 × (Nat → Int32) := ((if (rSizes (p0).toNatClampNeg) = (3 : Int32) then (f_X7_tries_J15 o_number o_tried o_fields_f o_trial_f p0 x7 (1 : Int32)) else (if (o_fields_f ((1 : Int32)).toNatClampNeg) = (8 : Int32) then (if (rSizes (p0).toNatClampNeg) = 0 then (f_X7_tries_J15 o_number o_tried o_fields_f o_trial_f p0 x7 (1 : Int32)) else (if (rSizes (p0).toNatClampNeg) = (1 : Int32) then (f_X7_tries_J15 o_number o_tried o_fields_f o_trial_f p0 x7 (1 : Int32)) else (if (rSizes (p0).toNatClampNeg) = (7 : Int32) then (f_X7_tries_J15 o_number o_tried o_fields_f o_trial_f p0 x7 (1 : Int32)) else (f_X7_tries_J15 o_number o_tried o_fields_f o_trial_f p0 x7 (0 : Int32))))) else (f_X7_tries_J15 o_number o_tried o_fields_f o_trial_f p0 x7 (0 : Int32)))))
def f_X7_tries (o_number : Int64) (o_tried : Int32) (o_fields_f : (Nat → Int32)) (o_trial_f : (Nat → Int32)) (p0 : Int32) : Int32 × Int32 × (Nat → Int32) := ((if (rOps (p0).toNatClampNeg) = (o_fields_f ((0 : Int32)).toNatClampNeg) then (if (f_X7_allows (rSizes (p0).toNatClampNeg) (o_fields_f ((1 : Int32)).toNatClampNeg)) = 0 then (f_X7_tries_J8 o_number o_tried o_fields_f o_trial_f p0 (0 : Int32)) else (if (f_X7_conditional (rOps (p0).toNatClampNeg)) = 0 then (if (o_fields_f ((2 : Int32)).toNatClampNeg) = 0 then (f_X7_tries_J8 o_number o_tried o_fields_f o_trial_f p0 (1 : Int32)) else (f_X7_tries_J8 o_number o_tried o_fields_f o_trial_f p0 (0 : Int32))) else (if (o_fields_f ((2 : Int32)).toNatClampNeg) < 0 then (f_X7_tries_J8 o_number o_tried o_fields_f o_trial_f p0 (0 : Int32)) else (if (16 : Int32) ≤ (o_fields_f ((2 : Int32)).toNatClampNeg) then (f_X7_tries_J8 o_number o_tried o_fields_f o_trial_f p0 (0 : Int32)) else (f_X7_tries_J8 o_number o_tried o_fields_f o_trial_f p0 (1 : Int32)))))) else (f_X7_tries_J8 o_number o_tried o_fields_f o_trial_f p0 (0 : Int32))))
set_option maxHeartbeats 4000000 in
set_option maxRecDepth 100000 in
theorem c_X7_tries (l : Launch) (D : va_G) (cI : ClassId) (tT : Nat) (o : Nat) (o_ops : Nat) (o_sizes : Nat) (o_patterns : Nat) (o_leads : Nat) (o_codes : Nat) (o_tells : Nat) (o_numbers : Nat) (o_fields : Nat) (o_found : Nat) (o_bytes : Nat) (o_trial : Nat) (o_fed : Nat) (o_thrown : Int32) (o_number : Int64) (o_foundNumber : Int64) (o_length : Int32) (o_tried : Int32) (o_given : Int32) (o_at : Int32) (o_pfx : Int32) (o_pfd : Int32) (o_short0 : Int32) (o_fields_f : (Nat → Int32)) (o_trial_f : (Nat → Int32)) (p0 : Int32) (hv_p0 : qv (0) (114) p0) (hv_o_tried : qv (0) (20) o_tried) (r_o : Int32) (o_tried_o : Int32) (o_trial_f_o : (Nat → Int32)) (hq : f_X7_tries o_number o_tried o_fields_f o_trial_f p0 = (r_o, o_tried_o, o_trial_f_o)) : qM l yX7_tries wsX7_tries (qr 3 73) (qX tT) D vwCl [(cI, .int)] [(o, .inr (6, [.int o_thrown, .int (115 : Int32), .ref o_ops, .ref o_sizes, .ref o_patterns, .ref o_leads, .ref o_codes, .ref o_tells, .ref o_numbers, .ref o_fields, .ref o_found, .long o_number, .long o_foundNumber, .ref o_bytes, .ref o_trial, .ref o_fed, .int o_length, .int o_tried, .int o_given, .int o_at, .int o_pfx, .int o_pfd, .int o_short0])), (o_ops, .inl (cI, 160, .inl rOps)), (o_sizes, .inl (cI, 160, .inl rSizes)), (o_patterns, .inl (cI, 160, .inl rPats)), (o_leads, .inl (cI, 160, .inl rLeads)), (o_codes, .inl (cI, 160, .inl rCodes)), (o_tells, .inl (cI, 160, .inl rTells)), (o_numbers, .inl (cI, 160, .inl rNums)), (o_fields, .inl (cI, 13, .inl o_fields_f)), (o_trial, .inl (cI, 20, .inl o_trial_f))] [.ref o, .int p0] (some (.int r_o)) [(o, .inr (6, [.int o_thrown, .int (115 : Int32), .ref o_ops, .ref o_sizes, .ref o_patterns, .ref o_leads, .ref o_codes, .ref o_tells, .ref o_numbers, .ref o_fields, .ref o_found, .long o_number, .long o_foundNumber, .ref o_bytes, .ref o_trial, .ref o_fed, .int o_length, .int o_tried_o, .int o_given, .int o_at, .int o_pfx, .int o_pfd, .int o_short0])), (o_ops, .inl (cI, 160, .inl rOps)), (o_sizes, .inl (cI, 160, .inl rSizes)), (o_patterns, .inl (cI, 160, .inl rPats)), (o_leads, .inl (cI, 160, .inl rLeads)), (o_codes, .inl (cI, 160, .inl rCodes)), (o_tells, .inl (cI, 160, .inl rTells)), (o_numbers, .inl (cI, 160, .inl rNums)), (o_fields, .inl (cI, 13, .inl o_fields_f)), (o_trial, .inl (cI, 20, .inl o_trial_f_o))] := by
  refine qM_of (cc := cX7_tries) (maxL := 15) (ret := (some .boolean)) (by decide) rfl (Nat.le_of_ble_eq_true rfl) ?_
  intro p e s m args below meth c A ls Z hx hb hml hr hts hown hlk hK hA hXs hP hD hS hl hZ
  have hown : s.vm.findClass RX7 = some m.cls := hown
  have hl : lv_has ls 15 [(0, .ref o), (1, .int p0)] := hl
  have hi_X7 : ∀ w ∈ wsX70, w ∈ wsX7_tries := by decide +kernel
  have lk13 := hts (.fieldLink RX7 13 "InstructionCoderModel" "sizes" "[I") (by decide +kernel)
  have lk16 := hts (.fieldLink RX7 16 "InstructionCoderModel" "patterns" "[I") (by decide +kernel)
  have lk19 := hts (.fieldLink RX7 19 "InstructionCoderModel" "leads" "[I") (by decide +kernel)
  have lk22 := hts (.fieldLink RX7 22 "InstructionCoderModel" "codes" "[I") (by decide +kernel)
  have lk25 := hts (.fieldLink RX7 25 "InstructionCoderModel" "tells" "[I") (by decide +kernel)
  have lk28 := hts (.fieldLink RX7 28 "InstructionCoderModel" "numbers" "[I") (by decide +kernel)
  have lk31 := hts (.fieldLink RX7 31 "InstructionCoderModel" "fields" "[I") (by decide +kernel)
  have lk60 := hts (.fieldLink RX7 60 "InstructionCoderModel" "number" "J") (by decide +kernel)
  have lk7 := hts (.fieldLink RX7 7 "InstructionCoderModel" "ops" "[I") (by decide +kernel)
  have lk77 := hts (.fieldLink RX7 77 "InstructionCoderModel" "tried" "I") (by decide +kernel)
  have hXg := qX_ok tT
  have E := hq
  rw [f_X7_tries] at E
  refine lv_aload_n hx hb dX7_tries_0 rfl (lv_at hl 0 rfl) ?_
  refine va_get (D := D) (ci := 6) (v := .ref o_fields) (C := RX7) (T := TX7) (N := 23) hx hb hts hi_X7 hown hK hP 0 rfl rfl 9 (by decide) lk31 (fun _ h9 => h9) rfl dX7_tries_1 ?_
  refine lv_iconst (v := (1 : Int32)) hx hb dX7_tries_4 (by decide) ?_
  refine va_iald hx hb hK hP 8 0 rfl rfl (qw_in0 (x := (1 : Int32)) (n := 13) (by decide) (by decide)) dX7_tries_5 ?_
  refine lv_istore_n (lv' := [(2, .int (o_fields_f ((1 : Int32)).toNatClampNeg)), (0, .ref o), (1, .int p0)]) hx hb dX7_tries_6 rfl hl (by decide) rfl (fun ls hl => ?_)
  refine lv_aload_n hx hb dX7_tries_7 rfl (lv_at hl 1 rfl) ?_
  refine va_get (D := D) (ci := 6) (v := .ref o_patterns) (C := RX7) (T := TX7) (N := 23) hx hb hts hi_X7 hown hK hP 0 rfl rfl 4 (by decide) lk16 (fun _ h9 => h9) rfl dX7_tries_8 ?_
  refine lv_iload_n hx hb dX7_tries_11 rfl (lv_at hl 2 rfl) ?_
  refine va_iald hx hb hK hP 3 0 rfl rfl (qv_in (⟨hv_p0.1, hv_p0.2⟩ : qv (0) (114) p0) (by decide) (by decide)) dX7_tries_12 ?_
  refine lv_istore_n (lv' := [(3, .int (rPats (p0).toNatClampNeg)), (2, .int (o_fields_f ((1 : Int32)).toNatClampNeg)), (0, .ref o), (1, .int p0)]) hx hb dX7_tries_13 rfl hl (by decide) rfl (fun ls hl => ?_)
  refine lv_aload_n hx hb dX7_tries_14 rfl (lv_at hl 2 rfl) ?_
  refine va_get (D := D) (ci := 6) (v := .ref o_ops) (C := RX7) (T := TX7) (N := 23) hx hb hts hi_X7 hown hK hP 0 rfl rfl 2 (by decide) lk7 (fun _ h9 => h9) rfl dX7_tries_15 ?_
  refine lv_iload_n hx hb dX7_tries_18 rfl (lv_at hl 3 rfl) ?_
  refine va_iald hx hb hK hP 1 0 rfl rfl (qv_in (⟨hv_p0.1, hv_p0.2⟩ : qv (0) (114) p0) (by decide) (by decide)) dX7_tries_19 ?_
  refine lv_aload_n hx hb dX7_tries_20 rfl (lv_at hl 2 rfl) ?_
  refine va_get (D := D) (ci := 6) (v := .ref o_fields) (C := RX7) (T := TX7) (N := 23) hx hb hts hi_X7 hown hK hP 0 rfl rfl 9 (by decide) lk31 (fun _ h9 => h9) rfl dX7_tries_21 ?_
  refine lv_iconst (v := (0 : Int32)) hx hb dX7_tries_24 (by decide) ?_
  refine va_iald hx hb hK hP 8 0 rfl rfl (qw_in0 (x := (0 : Int32)) (n := 13) (by decide) (by decide)) dX7_tries_25 ?_
  have J8 : ∀ (x7 : Int32) (hb_x7 : x7 = 0 ∨ x7 = 1) (hv_x7 : qv (0) (1) x7) (ls : Array Slot) (H : Heap) (locs : List Loc), f_X7_tries_J8 o_number o_tried o_fields_f o_trial_f p0 x7 = (r_o, o_tried_o, o_trial_f_o) → lv_has ls 15 [(3, .int (rPats (p0).toNatClampNeg)), (2, .int (o_fields_f ((1 : Int32)).toNatClampNeg)), (0, .ref o), (1, .int p0)] → va_P D vwCl [(o, .inr (6, [.int o_thrown, .int (115 : Int32), .ref o_ops, .ref o_sizes, .ref o_patterns, .ref o_leads, .ref o_codes, .ref o_tells, .ref o_numbers, .ref o_fields, .ref o_found, .long o_number, .long o_foundNumber, .ref o_bytes, .ref o_trial, .ref o_fed, .int o_length, .int o_tried, .int o_given, .int o_at, .int o_pfx, .int o_pfd, .int o_short0])), (o_ops, .inl (cI, 160, .inl rOps)), (o_sizes, .inl (cI, 160, .inl rSizes)), (o_patterns, .inl (cI, 160, .inl rPats)), (o_leads, .inl (cI, 160, .inl rLeads)), (o_codes, .inl (cI, 160, .inl rCodes)), (o_tells, .inl (cI, 160, .inl rTells)), (o_numbers, .inl (cI, 160, .inl rNums)), (o_fields, .inl (cI, 13, .inl o_fields_f)), (o_trial, .inl (cI, 20, .inl o_trial_f))] H → va_D A [(o, .inr (6, [.int o_thrown, .int (115 : Int32), .ref o_ops, .ref o_sizes, .ref o_patterns, .ref o_leads, .ref o_codes, .ref o_tells, .ref o_numbers, .ref o_fields, .ref o_found, .long o_number, .long o_foundNumber, .ref o_bytes, .ref o_trial, .ref o_fed, .int o_length, .int o_tried, .int o_given, .int o_at, .int o_pfx, .int o_pfd, .int o_short0])), (o_ops, .inl (cI, 160, .inl rOps)), (o_sizes, .inl (cI, 160, .inl rSizes)), (o_patterns, .inl (cI, 160, .inl rPats)), (o_leads, .inl (cI, 160, .inl rLeads)), (o_codes, .inl (cI, 160, .inl rCodes)), (o_tells, .inl (cI, 160, .inl rTells)), (o_numbers, .inl (cI, 160, .inl rNums)), (o_fields, .inl (cI, 13, .inl o_fields_f)), (o_trial, .inl (cI, 20, .inl o_trial_f))] → va_S A s.heap H locs → W p l e (qr 3 73) s m args below meth c H locs 0 0 Z (F0 m 91 ls [.int x7]) := by
    intro x7 hb_x7 hv_x7 ls H locs E hl hP hD hS
    rw [f_X7_tries_J8] at E
    refine lv_istore (lv' := [(4, .int x7), (3, .int (rPats (p0).toNatClampNeg)), (2, .int (o_fields_f ((1 : Int32)).toNatClampNeg)), (0, .ref o), (1, .int p0)]) hx hb dX7_tries_91 hl (by decide) rfl (fun ls hl => ?_)
    refine lv_iconst (v := (0 : Int32)) hx hb dX7_tries_93 (by decide) ?_
    refine lv_istore (lv' := [(5, .int (0 : Int32)), (4, .int x7), (3, .int (rPats (p0).toNatClampNeg)), (2, .int (o_fields_f ((1 : Int32)).toNatClampNeg)), (0, .ref o), (1, .int p0)]) hx hb dX7_tries_94 hl (by decide) rfl (fun ls hl => ?_)
    refine lv_aload_n hx hb dX7_tries_96 rfl (lv_at hl 4 rfl) ?_
    refine va_get (D := D) (ci := 6) (v := .ref o_sizes) (C := RX7) (T := TX7) (N := 23) hx hb hts hi_X7 hown hK hP 0 rfl rfl 3 (by decide) lk13 (fun _ h9 => h9) rfl dX7_tries_97 ?_
    refine lv_iload_n hx hb dX7_tries_100 rfl (lv_at hl 5 rfl) ?_
    refine va_iald hx hb hK hP 2 0 rfl rfl (qv_in (⟨hv_p0.1, hv_p0.2⟩ : qv (0) (114) p0) (by decide) (by decide)) dX7_tries_101 ?_
    refine lv_iconst (v := (3 : Int32)) hx hb dX7_tries_102 (by decide) ?_
    have J15 : ∀ (x14 : Int32) (hb_x14 : x14 = 0 ∨ x14 = 1) (hv_x14 : qv (0) (1) x14) (ls : Array Slot) (H : Heap) (locs : List Loc), f_X7_tries_J15 o_number o_tried o_fields_f o_trial_f p0 x7 x14 = (r_o, o_tried_o, o_trial_f_o) → lv_has ls 15 [(5, .int (0 : Int32)), (4, .int x7), (3, .int (rPats (p0).toNatClampNeg)), (2, .int (o_fields_f ((1 : Int32)).toNatClampNeg)), (0, .ref o), (1, .int p0)] → va_P D vwCl [(o, .inr (6, [.int o_thrown, .int (115 : Int32), .ref o_ops, .ref o_sizes, .ref o_patterns, .ref o_leads, .ref o_codes, .ref o_tells, .ref o_numbers, .ref o_fields, .ref o_found, .long o_number, .long o_foundNumber, .ref o_bytes, .ref o_trial, .ref o_fed, .int o_length, .int o_tried, .int o_given, .int o_at, .int o_pfx, .int o_pfd, .int o_short0])), (o_ops, .inl (cI, 160, .inl rOps)), (o_sizes, .inl (cI, 160, .inl rSizes)), (o_patterns, .inl (cI, 160, .inl rPats)), (o_leads, .inl (cI, 160, .inl rLeads)), (o_codes, .inl (cI, 160, .inl rCodes)), (o_tells, .inl (cI, 160, .inl rTells)), (o_numbers, .inl (cI, 160, .inl rNums)), (o_fields, .inl (cI, 13, .inl o_fields_f)), (o_trial, .inl (cI, 20, .inl o_trial_f))] H → va_D A [(o, .inr (6, [.int o_thrown, .int (115 : Int32), .ref o_ops, .ref o_sizes, .ref o_patterns, .ref o_leads, .ref o_codes, .ref o_tells, .ref o_numbers, .ref o_fields, .ref o_found, .long o_number, .long o_foundNumber, .ref o_bytes, .ref o_trial, .ref o_fed, .int o_length, .int o_tried, .int o_given, .int o_at, .int o_pfx, .int o_pfd, .int o_short0])), (o_ops, .inl (cI, 160, .inl rOps)), (o_sizes, .inl (cI, 160, .inl rSizes)), (o_patterns, .inl (cI, 160, .inl rPats)), (o_leads, .inl (cI, 160, .inl rLeads)), (o_codes, .inl (cI, 160, .inl rCodes)), (o_tells, .inl (cI, 160, .inl rTells)), (o_numbers, .inl (cI, 160, .inl rNums)), (o_fields, .inl (cI, 13, .inl o_fields_f)), (o_trial, .inl (cI, 20, .inl o_trial_f))] → va_S A s.heap H locs → W p l e (qr 3 73) s m args below meth c H locs 0 0 Z (F0 m 147 ls [.int x14]) := by
      intro x14 hb_x14 hv_x14 ls H locs E hl hP hD hS
      rw [f_X7_tries_J15] at E
      refine lv_istore (lv' := [(6, .int x14), (5, .int (0 : Int32)), (4, .int x7), (3, .int (rPats (p0).toNatClampNeg)), (2, .int (o_fields_f ((1 : Int32)).toNatClampNeg)), (0, .ref o), (1, .int p0)]) hx hb dX7_tries_147 hl (by decide) rfl (fun ls hl => ?_)
      refine lv_iload hx hb dX7_tries_149 (lv_at hl 0 rfl) ?_
      have J18 : ∀ (x17 : Int32) (hv_x17 : qv (0) (8) x17) (ls : Array Slot) (H : Heap) (locs : List Loc), f_X7_tries_J18 o_number o_tried o_fields_f o_trial_f p0 x7 x14 x17 = (r_o, o_tried_o, o_trial_f_o) → lv_has ls 15 [(6, .int x14), (5, .int (0 : Int32)), (4, .int x7), (3, .int (rPats (p0).toNatClampNeg)), (2, .int (o_fields_f ((1 : Int32)).toNatClampNeg)), (0, .ref o), (1, .int p0)] → va_P D vwCl [(o, .inr (6, [.int o_thrown, .int (115 : Int32), .ref o_ops, .ref o_sizes, .ref o_patterns, .ref o_leads, .ref o_codes, .ref o_tells, .ref o_numbers, .ref o_fields, .ref o_found, .long o_number, .long o_foundNumber, .ref o_bytes, .ref o_trial, .ref o_fed, .int o_length, .int o_tried, .int o_given, .int o_at, .int o_pfx, .int o_pfd, .int o_short0])), (o_ops, .inl (cI, 160, .inl rOps)), (o_sizes, .inl (cI, 160, .inl rSizes)), (o_patterns, .inl (cI, 160, .inl rPats)), (o_leads, .inl (cI, 160, .inl rLeads)), (o_codes, .inl (cI, 160, .inl rCodes)), (o_tells, .inl (cI, 160, .inl rTells)), (o_numbers, .inl (cI, 160, .inl rNums)), (o_fields, .inl (cI, 13, .inl o_fields_f)), (o_trial, .inl (cI, 20, .inl o_trial_f))] H → va_D A [(o, .inr (6, [.int o_thrown, .int (115 : Int32), .ref o_ops, .ref o_sizes, .ref o_patterns, .ref o_leads, .ref o_codes, .ref o_tells, .ref o_numbers, .ref o_fields, .ref o_found, .long o_number, .long o_foundNumber, .ref o_bytes, .ref o_trial, .ref o_fed, .int o_length, .int o_tried, .int o_given, .int o_at, .int o_pfx, .int o_pfd, .int o_short0])), (o_ops, .inl (cI, 160, .inl rOps)), (o_sizes, .inl (cI, 160, .inl rSizes)), (o_patterns, .inl (cI, 160, .inl rPats)), (o_leads, .inl (cI, 160, .inl rLeads)), (o_codes, .inl (cI, 160, .inl rCodes)), (o_tells, .inl (cI, 160, .inl rTells)), (o_numbers, .inl (cI, 160, .inl rNums)), (o_fields, .inl (cI, 13, .inl o_fields_f)), (o_trial, .inl (cI, 20, .inl o_trial_f))] → va_S A s.heap H locs → W p l e (qr 3 73) s m args below meth c H locs 0 0 Z (F0 m 160 ls [.int x17]) := by
        intro x17 hv_x17 ls H locs E hl hP hD hS
        rw [f_X7_tries_J18] at E
        refine lv_istore (lv' := [(7, .int x17), (6, .int x14), (5, .int (0 : Int32)), (4, .int x7), (3, .int (rPats (p0).toNatClampNeg)), (2, .int (o_fields_f ((1 : Int32)).toNatClampNeg)), (0, .ref o), (1, .int p0)]) hx hb dX7_tries_160 hl (by decide) rfl (fun ls hl => ?_)
        refine lv_aload_n hx hb dX7_tries_162 rfl (lv_at hl 6 rfl) ?_
        refine va_get (D := D) (ci := 6) (v := .ref o_tells) (C := RX7) (T := TX7) (N := 23) hx hb hts hi_X7 hown hK hP 0 rfl rfl 7 (by decide) lk25 (fun _ h9 => h9) rfl dX7_tries_163 ?_
        refine lv_iload_n hx hb dX7_tries_166 rfl (lv_at hl 7 rfl) ?_
        refine va_iald hx hb hK hP 6 0 rfl rfl (qv_in (⟨hv_p0.1, hv_p0.2⟩ : qv (0) (114) p0) (by decide) (by decide)) dX7_tries_167 ?_
        refine lv_bipush (v := (8 : Int32)) hx hb dX7_tries_168 (by decide) ?_
        have J21 : ∀ (x20 : Int32) (ls : Array Slot) (H : Heap) (locs : List Loc), f_X7_tries_J21 o_number o_tried o_fields_f o_trial_f p0 x7 x14 x17 x20 = (r_o, o_tried_o, o_trial_f_o) → lv_has ls 15 [(7, .int x17), (6, .int x14), (5, .int (0 : Int32)), (4, .int x7), (3, .int (rPats (p0).toNatClampNeg)), (2, .int (o_fields_f ((1 : Int32)).toNatClampNeg)), (0, .ref o), (1, .int p0)] → va_P D vwCl [(o, .inr (6, [.int o_thrown, .int (115 : Int32), .ref o_ops, .ref o_sizes, .ref o_patterns, .ref o_leads, .ref o_codes, .ref o_tells, .ref o_numbers, .ref o_fields, .ref o_found, .long o_number, .long o_foundNumber, .ref o_bytes, .ref o_trial, .ref o_fed, .int o_length, .int o_tried, .int o_given, .int o_at, .int o_pfx, .int o_pfd, .int o_short0])), (o_ops, .inl (cI, 160, .inl rOps)), (o_sizes, .inl (cI, 160, .inl rSizes)), (o_patterns, .inl (cI, 160, .inl rPats)), (o_leads, .inl (cI, 160, .inl rLeads)), (o_codes, .inl (cI, 160, .inl rCodes)), (o_tells, .inl (cI, 160, .inl rTells)), (o_numbers, .inl (cI, 160, .inl rNums)), (o_fields, .inl (cI, 13, .inl o_fields_f)), (o_trial, .inl (cI, 20, .inl o_trial_f))] H → va_D A [(o, .inr (6, [.int o_thrown, .int (115 : Int32), .ref o_ops, .ref o_sizes, .ref o_patterns, .ref o_leads, .ref o_codes, .ref o_tells, .ref o_numbers, .ref o_fields, .ref o_found, .long o_number, .long o_foundNumber, .ref o_bytes, .ref o_trial, .ref o_fed, .int o_length, .int o_tried, .int o_given, .int o_at, .int o_pfx, .int o_pfd, .int o_short0])), (o_ops, .inl (cI, 160, .inl rOps)), (o_sizes, .inl (cI, 160, .inl rSizes)), (o_patterns, .inl (cI, 160, .inl rPats)), (o_leads, .inl (cI, 160, .inl rLeads)), (o_codes, .inl (cI, 160, .inl rCodes)), (o_tells, .inl (cI, 160, .inl rTells)), (o_numbers, .inl (cI, 160, .inl rNums)), (o_fields, .inl (cI, 13, .inl o_fields_f)), (o_trial, .inl (cI, 20, .inl o_trial_f))] → va_S A s.heap H locs → W p l e (qr 3 73) s m args below meth c H locs 0 0 Z (F0 m 183 ls [.int x20]) := by
          intro x20 ls H locs E hl hP hD hS
          rw [f_X7_tries_J21] at E
          refine lv_istore (lv' := [(8, .int x20), (7, .int x17), (6, .int x14), (5, .int (0 : Int32)), (4, .int x7), (3, .int (rPats (p0).toNatClampNeg)), (2, .int (o_fields_f ((1 : Int32)).toNatClampNeg)), (0, .ref o), (1, .int p0)]) hx hb dX7_tries_183 hl (by decide) rfl (fun ls hl => ?_)
          refine lv_iconst (v := (0 : Int32)) hx hb dX7_tries_185 (by decide) ?_
          refine lv_istore (lv' := [(9, .int (0 : Int32)), (8, .int x20), (7, .int x17), (6, .int x14), (5, .int (0 : Int32)), (4, .int x7), (3, .int (rPats (p0).toNatClampNeg)), (2, .int (o_fields_f ((1 : Int32)).toNatClampNeg)), (0, .ref o), (1, .int p0)]) hx hb dX7_tries_186 hl (by decide) rfl (fun ls hl => ?_)
          refine lv_iconst (v := (0 : Int32)) hx hb dX7_tries_188 (by decide) ?_
          refine lv_istore (lv' := [(10, .int (0 : Int32)), (9, .int (0 : Int32)), (8, .int x20), (7, .int x17), (6, .int x14), (5, .int (0 : Int32)), (4, .int x7), (3, .int (rPats (p0).toNatClampNeg)), (2, .int (o_fields_f ((1 : Int32)).toNatClampNeg)), (0, .ref o), (1, .int p0)]) hx hb dX7_tries_189 hl (by decide) rfl (fun ls hl => ?_)
          refine lv_iload hx hb dX7_tries_191 (lv_at hl 0 rfl) ?_
          refine lv_iconst (v := (3 : Int32)) hx hb dX7_tries_193 (by decide) ?_
          refine lv_icmp_ge (tgt := 401) hx hb dX7_tries_194 (by decide) (fun c9 => absurd c9 (by decide)) (fun _ => ?_)
          refine lv_iload hx hb dX7_tries_197 (lv_at hl 6 rfl) ?_
          have J124 : ∀ (x117 : Int32) (hv_x117 : qv (0) (3) x117) (x118 : Int32) (x119 : Int32) (x120 : Int32) (x121 : Int32) (hb_x121 : x121 = 0 ∨ x121 = 1) (hv_x121 : qv (0) (1) x121) (x122 : Int32) (hb_x122 : x122 = 0 ∨ x122 = 1) (hv_x122 : qv (0) (1) x122) (x123 : Int32) (ls : Array Slot) (H : Heap) (locs : List Loc), f_X7_tries_J124 o_number o_tried o_fields_f o_trial_f p0 x117 x118 x119 x120 x121 x122 x123 = (r_o, o_tried_o, o_trial_f_o) → lv_has ls 15 [(10, .int x117), (9, .int x118), (8, .int x119), (7, .int x120), (6, .int x121), (5, .int x122), (4, .int x123), (3, .int (rPats (p0).toNatClampNeg)), (2, .int (o_fields_f ((1 : Int32)).toNatClampNeg)), (0, .ref o), (1, .int p0)] → va_P D vwCl [(o, .inr (6, [.int o_thrown, .int (115 : Int32), .ref o_ops, .ref o_sizes, .ref o_patterns, .ref o_leads, .ref o_codes, .ref o_tells, .ref o_numbers, .ref o_fields, .ref o_found, .long o_number, .long o_foundNumber, .ref o_bytes, .ref o_trial, .ref o_fed, .int o_length, .int o_tried, .int o_given, .int o_at, .int o_pfx, .int o_pfd, .int o_short0])), (o_ops, .inl (cI, 160, .inl rOps)), (o_sizes, .inl (cI, 160, .inl rSizes)), (o_patterns, .inl (cI, 160, .inl rPats)), (o_leads, .inl (cI, 160, .inl rLeads)), (o_codes, .inl (cI, 160, .inl rCodes)), (o_tells, .inl (cI, 160, .inl rTells)), (o_numbers, .inl (cI, 160, .inl rNums)), (o_fields, .inl (cI, 13, .inl o_fields_f)), (o_trial, .inl (cI, 20, .inl o_trial_f))] H → va_D A [(o, .inr (6, [.int o_thrown, .int (115 : Int32), .ref o_ops, .ref o_sizes, .ref o_patterns, .ref o_leads, .ref o_codes, .ref o_tells, .ref o_numbers, .ref o_fields, .ref o_found, .long o_number, .long o_foundNumber, .ref o_bytes, .ref o_trial, .ref o_fed, .int o_length, .int o_tried, .int o_given, .int o_at, .int o_pfx, .int o_pfd, .int o_short0])), (o_ops, .inl (cI, 160, .inl rOps)), (o_sizes, .inl (cI, 160, .inl rSizes)), (o_patterns, .inl (cI, 160, .inl rPats)), (o_leads, .inl (cI, 160, .inl rLeads)), (o_codes, .inl (cI, 160, .inl rCodes)), (o_tells, .inl (cI, 160, .inl rTells)), (o_numbers, .inl (cI, 160, .inl rNums)), (o_fields, .inl (cI, 13, .inl o_fields_f)), (o_trial, .inl (cI, 20, .inl o_trial_f))] → va_S A s.heap H locs → W p l e (qr 3 73) s m args below meth c H locs 0 0 Z (F0 m 401 ls []) := by
            intro x117 hv_x117 x118 x119 x120 x121 hb_x121 hv_x121 x122 hb_x122 hv_x122 x123 ls H locs E hl hP hD hS
            rw [f_X7_tries_J124] at E
            refine lv_iload hx hb dX7_tries_401 (lv_at hl 6 rfl) ?_
            refine lv_if_eq (tgt := 418) hx hb dX7_tries_403 (by decide) (fun c125 => ?_) (fun c125 => ?_)
            · rw [if_pos c125] at E
              refine lv_iconst (v := (0 : Int32)) hx hb dX7_tries_418 (by decide) ?_
              cases E
              rw [hZ]
              exact qw_zret hx hb hr hlk (Or.inl rfl) hP hD hS dX7_tries_419
            · rw [if_neg c125] at E
              refine lv_iload hx hb dX7_tries_406 (lv_at hl 5 rfl) ?_
              have J128 : ∀  (ls : Array Slot) (H : Heap) (locs : List Loc), f_X7_tries_J128 o_number o_fields_f o_trial_f p0 x118 x119 x120 x121 x122 = (r_o, o_tried_o, o_trial_f_o) → lv_has ls 15 [(10, .int x117), (9, .int x118), (8, .int x119), (7, .int x120), (6, .int x121), (5, .int x122), (4, .int x123), (3, .int (rPats (p0).toNatClampNeg)), (2, .int (o_fields_f ((1 : Int32)).toNatClampNeg)), (0, .ref o), (1, .int p0)] → va_P D vwCl [(o, .inr (6, [.int o_thrown, .int (115 : Int32), .ref o_ops, .ref o_sizes, .ref o_patterns, .ref o_leads, .ref o_codes, .ref o_tells, .ref o_numbers, .ref o_fields, .ref o_found, .long o_number, .long o_foundNumber, .ref o_bytes, .ref o_trial, .ref o_fed, .int o_length, .int o_tried, .int o_given, .int o_at, .int o_pfx, .int o_pfd, .int o_short0])), (o_ops, .inl (cI, 160, .inl rOps)), (o_sizes, .inl (cI, 160, .inl rSizes)), (o_patterns, .inl (cI, 160, .inl rPats)), (o_leads, .inl (cI, 160, .inl rLeads)), (o_codes, .inl (cI, 160, .inl rCodes)), (o_tells, .inl (cI, 160, .inl rTells)), (o_numbers, .inl (cI, 160, .inl rNums)), (o_fields, .inl (cI, 13, .inl o_fields_f)), (o_trial, .inl (cI, 20, .inl o_trial_f))] H → va_D A [(o, .inr (6, [.int o_thrown, .int (115 : Int32), .ref o_ops, .ref o_sizes, .ref o_patterns, .ref o_leads, .ref o_codes, .ref o_tells, .ref o_numbers, .ref o_fields, .ref o_found, .long o_number, .long o_foundNumber, .ref o_bytes, .ref o_trial, .ref o_fed, .int o_length, .int o_tried, .int o_given, .int o_at, .int o_pfx, .int o_pfd, .int o_short0])), (o_ops, .inl (cI, 160, .inl rOps)), (o_sizes, .inl (cI, 160, .inl rSizes)), (o_patterns, .inl (cI, 160, .inl rPats)), (o_leads, .inl (cI, 160, .inl rLeads)), (o_codes, .inl (cI, 160, .inl rCodes)), (o_tells, .inl (cI, 160, .inl rTells)), (o_numbers, .inl (cI, 160, .inl rNums)), (o_fields, .inl (cI, 13, .inl o_fields_f)), (o_trial, .inl (cI, 20, .inl o_trial_f))] → va_S A s.heap H locs → W p l e (qr 3 73) s m args below meth c H locs 0 0 Z (F0 m 420 ls []) := by
                intro  ls H locs E hl hP hD hS
                rw [f_X7_tries_J128] at E
                refine lv_iload hx hb dX7_tries_420 (lv_at hl 5 rfl) ?_
                have J133 : ∀ (x132 : Int32) (ls : Array Slot) (H : Heap) (locs : List Loc), f_X7_tries_J133 o_number o_fields_f o_trial_f p0 x118 x119 x121 x122 x132 = (r_o, o_tried_o, o_trial_f_o) → lv_has ls 15 [(10, .int x117), (9, .int x118), (8, .int x119), (7, .int x132), (6, .int x121), (5, .int x122), (4, .int x123), (3, .int (rPats (p0).toNatClampNeg)), (2, .int (o_fields_f ((1 : Int32)).toNatClampNeg)), (0, .ref o), (1, .int p0)] → va_P D vwCl [(o, .inr (6, [.int o_thrown, .int (115 : Int32), .ref o_ops, .ref o_sizes, .ref o_patterns, .ref o_leads, .ref o_codes, .ref o_tells, .ref o_numbers, .ref o_fields, .ref o_found, .long o_number, .long o_foundNumber, .ref o_bytes, .ref o_trial, .ref o_fed, .int o_length, .int o_tried, .int o_given, .int o_at, .int o_pfx, .int o_pfd, .int o_short0])), (o_ops, .inl (cI, 160, .inl rOps)), (o_sizes, .inl (cI, 160, .inl rSizes)), (o_patterns, .inl (cI, 160, .inl rPats)), (o_leads, .inl (cI, 160, .inl rLeads)), (o_codes, .inl (cI, 160, .inl rCodes)), (o_tells, .inl (cI, 160, .inl rTells)), (o_numbers, .inl (cI, 160, .inl rNums)), (o_fields, .inl (cI, 13, .inl o_fields_f)), (o_trial, .inl (cI, 20, .inl o_trial_f))] H → va_D A [(o, .inr (6, [.int o_thrown, .int (115 : Int32), .ref o_ops, .ref o_sizes, .ref o_patterns, .ref o_leads, .ref o_codes, .ref o_tells, .ref o_numbers, .ref o_fields, .ref o_found, .long o_number, .long o_foundNumber, .ref o_bytes, .ref o_trial, .ref o_fed, .int o_length, .int o_tried, .int o_given, .int o_at, .int o_pfx, .int o_pfd, .int o_short0])), (o_ops, .inl (cI, 160, .inl rOps)), (o_sizes, .inl (cI, 160, .inl rSizes)), (o_patterns, .inl (cI, 160, .inl rPats)), (o_leads, .inl (cI, 160, .inl rLeads)), (o_codes, .inl (cI, 160, .inl rCodes)), (o_tells, .inl (cI, 160, .inl rTells)), (o_numbers, .inl (cI, 160, .inl rNums)), (o_fields, .inl (cI, 13, .inl o_fields_f)), (o_trial, .inl (cI, 20, .inl o_trial_f))] → va_S A s.heap H locs → W p l e (qr 3 73) s m args below meth c H locs 0 0 Z (F0 m 455 ls []) := by
                  intro x132 ls H locs E hl hP hD hS
                  rw [f_X7_tries_J133] at E
                  refine lv_iload hx hb dX7_tries_455 (lv_at hl 5 rfl) ?_
                  have J137 : ∀ (x136 : Int32) (ls : Array Slot) (H : Heap) (locs : List Loc), f_X7_tries_J137 o_number o_fields_f o_trial_f p0 x118 x119 x121 x122 x136 = (r_o, o_tried_o, o_trial_f_o) → lv_has ls 15 [(10, .int x117), (9, .int x118), (8, .int x119), (7, .int x136), (6, .int x121), (5, .int x122), (4, .int x123), (3, .int (rPats (p0).toNatClampNeg)), (2, .int (o_fields_f ((1 : Int32)).toNatClampNeg)), (0, .ref o), (1, .int p0)] → va_P D vwCl [(o, .inr (6, [.int o_thrown, .int (115 : Int32), .ref o_ops, .ref o_sizes, .ref o_patterns, .ref o_leads, .ref o_codes, .ref o_tells, .ref o_numbers, .ref o_fields, .ref o_found, .long o_number, .long o_foundNumber, .ref o_bytes, .ref o_trial, .ref o_fed, .int o_length, .int o_tried, .int o_given, .int o_at, .int o_pfx, .int o_pfd, .int o_short0])), (o_ops, .inl (cI, 160, .inl rOps)), (o_sizes, .inl (cI, 160, .inl rSizes)), (o_patterns, .inl (cI, 160, .inl rPats)), (o_leads, .inl (cI, 160, .inl rLeads)), (o_codes, .inl (cI, 160, .inl rCodes)), (o_tells, .inl (cI, 160, .inl rTells)), (o_numbers, .inl (cI, 160, .inl rNums)), (o_fields, .inl (cI, 13, .inl o_fields_f)), (o_trial, .inl (cI, 20, .inl o_trial_f))] H → va_D A [(o, .inr (6, [.int o_thrown, .int (115 : Int32), .ref o_ops, .ref o_sizes, .ref o_patterns, .ref o_leads, .ref o_codes, .ref o_tells, .ref o_numbers, .ref o_fields, .ref o_found, .long o_number, .long o_foundNumber, .ref o_bytes, .ref o_trial, .ref o_fed, .int o_length, .int o_tried, .int o_given, .int o_at, .int o_pfx, .int o_pfd, .int o_short0])), (o_ops, .inl (cI, 160, .inl rOps)), (o_sizes, .inl (cI, 160, .inl rSizes)), (o_patterns, .inl (cI, 160, .inl rPats)), (o_leads, .inl (cI, 160, .inl rLeads)), (o_codes, .inl (cI, 160, .inl rCodes)), (o_tells, .inl (cI, 160, .inl rTells)), (o_numbers, .inl (cI, 160, .inl rNums)), (o_fields, .inl (cI, 13, .inl o_fields_f)), (o_trial, .inl (cI, 20, .inl o_trial_f))] → va_S A s.heap H locs → W p l e (qr 3 73) s m args below meth c H locs 0 0 Z (F0 m 478 ls []) := by
                    intro x136 ls H locs E hl hP hD hS
                    rw [f_X7_tries_J137] at E
                    refine lv_aload_n hx hb dX7_tries_478 rfl (lv_at hl 9 rfl) ?_
                    refine lv_iconst (v := (0 : Int32)) hx hb dX7_tries_479 (by decide) ?_
                    refine va_put (D := D) (ci := 6) (v := .int (0 : Int32)) (ty := .int) (C := RX7) (T := TX7) (N := 23) hx hb hts hi_X7 tyX7 tyX7_ok nmX7 hown hK hP hD hS 0 rfl rfl 17 (by decide) lk77 (fun _ h9 => h9) rfl (by decide +kernel) rfl rfl (Nat.le_of_ble_eq_true rfl) dX7_tries_480 (fun H locs hP hD hS => ?_)
                    have hP : va_P D vwCl [(o, .inr (6, [.int o_thrown, .int (115 : Int32), .ref o_ops, .ref o_sizes, .ref o_patterns, .ref o_leads, .ref o_codes, .ref o_tells, .ref o_numbers, .ref o_fields, .ref o_found, .long o_number, .long o_foundNumber, .ref o_bytes, .ref o_trial, .ref o_fed, .int o_length, .int (0 : Int32), .int o_given, .int o_at, .int o_pfx, .int o_pfd, .int o_short0])), (o_ops, .inl (cI, 160, .inl rOps)), (o_sizes, .inl (cI, 160, .inl rSizes)), (o_patterns, .inl (cI, 160, .inl rPats)), (o_leads, .inl (cI, 160, .inl rLeads)), (o_codes, .inl (cI, 160, .inl rCodes)), (o_tells, .inl (cI, 160, .inl rTells)), (o_numbers, .inl (cI, 160, .inl rNums)), (o_fields, .inl (cI, 13, .inl o_fields_f)), (o_trial, .inl (cI, 20, .inl o_trial_f))] H := hP
                    have hD : va_D A [(o, .inr (6, [.int o_thrown, .int (115 : Int32), .ref o_ops, .ref o_sizes, .ref o_patterns, .ref o_leads, .ref o_codes, .ref o_tells, .ref o_numbers, .ref o_fields, .ref o_found, .long o_number, .long o_foundNumber, .ref o_bytes, .ref o_trial, .ref o_fed, .int o_length, .int (0 : Int32), .int o_given, .int o_at, .int o_pfx, .int o_pfd, .int o_short0])), (o_ops, .inl (cI, 160, .inl rOps)), (o_sizes, .inl (cI, 160, .inl rSizes)), (o_patterns, .inl (cI, 160, .inl rPats)), (o_leads, .inl (cI, 160, .inl rLeads)), (o_codes, .inl (cI, 160, .inl rCodes)), (o_tells, .inl (cI, 160, .inl rTells)), (o_numbers, .inl (cI, 160, .inl rNums)), (o_fields, .inl (cI, 13, .inl o_fields_f)), (o_trial, .inl (cI, 20, .inl o_trial_f))] := hD
                    refine lv_aload_n hx hb dX7_tries_483 rfl (lv_at hl 9 rfl) ?_
                    refine va_get (D := D) (ci := 6) (v := .ref o_leads) (C := RX7) (T := TX7) (N := 23) hx hb hts hi_X7 hown hK hP 0 rfl rfl 5 (by decide) lk19 (fun _ h9 => h9) rfl dX7_tries_484 ?_
                    refine lv_iload_n hx hb dX7_tries_487 rfl (lv_at hl 10 rfl) ?_
                    refine va_iald hx hb hK hP 4 0 rfl rfl (qv_in (⟨hv_p0.1, hv_p0.2⟩ : qv (0) (114) p0) (by decide) (by decide)) dX7_tries_488 ?_
                    refine lv_sipush (v := (243 : Int32)) hx hb dX7_tries_489 (by decide) ?_
                    have J144 : ∀ (x142 : Int32) (hv_x142 : qv (0) (1) x142) (x143 : (Nat → Int32)) (ls : Array Slot) (H : Heap) (locs : List Loc), f_X7_tries_J144 o_number o_fields_f p0 x118 x119 x121 x122 x136 x142 x143 = (r_o, o_tried_o, o_trial_f_o) → lv_has ls 15 [(10, .int x117), (9, .int x118), (8, .int x119), (7, .int x136), (6, .int x121), (5, .int x122), (4, .int x123), (3, .int (rPats (p0).toNatClampNeg)), (2, .int (o_fields_f ((1 : Int32)).toNatClampNeg)), (0, .ref o), (1, .int p0)] → va_P D vwCl [(o, .inr (6, [.int o_thrown, .int (115 : Int32), .ref o_ops, .ref o_sizes, .ref o_patterns, .ref o_leads, .ref o_codes, .ref o_tells, .ref o_numbers, .ref o_fields, .ref o_found, .long o_number, .long o_foundNumber, .ref o_bytes, .ref o_trial, .ref o_fed, .int o_length, .int x142, .int o_given, .int o_at, .int o_pfx, .int o_pfd, .int o_short0])), (o_ops, .inl (cI, 160, .inl rOps)), (o_sizes, .inl (cI, 160, .inl rSizes)), (o_patterns, .inl (cI, 160, .inl rPats)), (o_leads, .inl (cI, 160, .inl rLeads)), (o_codes, .inl (cI, 160, .inl rCodes)), (o_tells, .inl (cI, 160, .inl rTells)), (o_numbers, .inl (cI, 160, .inl rNums)), (o_fields, .inl (cI, 13, .inl o_fields_f)), (o_trial, .inl (cI, 20, .inl x143))] H → va_D A [(o, .inr (6, [.int o_thrown, .int (115 : Int32), .ref o_ops, .ref o_sizes, .ref o_patterns, .ref o_leads, .ref o_codes, .ref o_tells, .ref o_numbers, .ref o_fields, .ref o_found, .long o_number, .long o_foundNumber, .ref o_bytes, .ref o_trial, .ref o_fed, .int o_length, .int x142, .int o_given, .int o_at, .int o_pfx, .int o_pfd, .int o_short0])), (o_ops, .inl (cI, 160, .inl rOps)), (o_sizes, .inl (cI, 160, .inl rSizes)), (o_patterns, .inl (cI, 160, .inl rPats)), (o_leads, .inl (cI, 160, .inl rLeads)), (o_codes, .inl (cI, 160, .inl rCodes)), (o_tells, .inl (cI, 160, .inl rTells)), (o_numbers, .inl (cI, 160, .inl rNums)), (o_fields, .inl (cI, 13, .inl o_fields_f)), (o_trial, .inl (cI, 20, .inl x143))] → va_S A s.heap H locs → W p l e (qr 3 73) s m args below meth c H locs 0 0 Z (F0 m 502 ls []) := by
                      intro x142 hv_x142 x143 ls H locs E hl hP hD hS
                      rw [f_X7_tries_J144] at E
                      refine lv_iload hx hb dX7_tries_502 (lv_at hl 4 rfl) ?_
                      have J155 : ∀ (x153 : Int32) (hv_x153 : qv (0) (2) x153) (x154 : (Nat → Int32)) (ls : Array Slot) (H : Heap) (locs : List Loc), f_X7_tries_J155 o_number o_fields_f p0 x118 x119 x122 x153 x154 = (r_o, o_tried_o, o_trial_f_o) → lv_has ls 15 [(10, .int x117), (9, .int x118), (8, .int x119), (7, .int x136), (6, .int x121), (5, .int x122), (4, .int x123), (3, .int (rPats (p0).toNatClampNeg)), (2, .int (o_fields_f ((1 : Int32)).toNatClampNeg)), (0, .ref o), (1, .int p0)] → va_P D vwCl [(o, .inr (6, [.int o_thrown, .int (115 : Int32), .ref o_ops, .ref o_sizes, .ref o_patterns, .ref o_leads, .ref o_codes, .ref o_tells, .ref o_numbers, .ref o_fields, .ref o_found, .long o_number, .long o_foundNumber, .ref o_bytes, .ref o_trial, .ref o_fed, .int o_length, .int x153, .int o_given, .int o_at, .int o_pfx, .int o_pfd, .int o_short0])), (o_ops, .inl (cI, 160, .inl rOps)), (o_sizes, .inl (cI, 160, .inl rSizes)), (o_patterns, .inl (cI, 160, .inl rPats)), (o_leads, .inl (cI, 160, .inl rLeads)), (o_codes, .inl (cI, 160, .inl rCodes)), (o_tells, .inl (cI, 160, .inl rTells)), (o_numbers, .inl (cI, 160, .inl rNums)), (o_fields, .inl (cI, 13, .inl o_fields_f)), (o_trial, .inl (cI, 20, .inl x154))] H → va_D A [(o, .inr (6, [.int o_thrown, .int (115 : Int32), .ref o_ops, .ref o_sizes, .ref o_patterns, .ref o_leads, .ref o_codes, .ref o_tells, .ref o_numbers, .ref o_fields, .ref o_found, .long o_number, .long o_foundNumber, .ref o_bytes, .ref o_trial, .ref o_fed, .int o_length, .int x153, .int o_given, .int o_at, .int o_pfx, .int o_pfd, .int o_short0])), (o_ops, .inl (cI, 160, .inl rOps)), (o_sizes, .inl (cI, 160, .inl rSizes)), (o_patterns, .inl (cI, 160, .inl rPats)), (o_leads, .inl (cI, 160, .inl rLeads)), (o_codes, .inl (cI, 160, .inl rCodes)), (o_tells, .inl (cI, 160, .inl rTells)), (o_numbers, .inl (cI, 160, .inl rNums)), (o_fields, .inl (cI, 13, .inl o_fields_f)), (o_trial, .inl (cI, 20, .inl x154))] → va_S A s.heap H locs → W p l e (qr 3 73) s m args below meth c H locs 0 0 Z (F0 m 521 ls []) := by
                        intro x153 hv_x153 x154 ls H locs E hl hP hD hS
                        rw [f_X7_tries_J155] at E
                        refine lv_aload_n hx hb dX7_tries_521 rfl (lv_at hl 9 rfl) ?_
                        refine va_get (D := D) (ci := 6) (v := .ref o_leads) (C := RX7) (T := TX7) (N := 23) hx hb hts hi_X7 hown hK hP 0 rfl rfl 5 (by decide) lk19 (fun _ h9 => h9) rfl dX7_tries_522 ?_
                        refine lv_iload_n hx hb dX7_tries_525 rfl (lv_at hl 10 rfl) ?_
                        refine va_iald hx hb hK hP 4 0 rfl rfl (qv_in (⟨hv_p0.1, hv_p0.2⟩ : qv (0) (114) p0) (by decide) (by decide)) dX7_tries_526 ?_
                        refine lv_bipush (v := (15 : Int32)) hx hb dX7_tries_527 (by decide) ?_
                        have J162 : ∀ (x160 : Int32) (hv_x160 : qv (0) (3) x160) (x161 : (Nat → Int32)) (ls : Array Slot) (H : Heap) (locs : List Loc), f_X7_tries_J162 o_number o_fields_f p0 x118 x119 x122 x160 x161 = (r_o, o_tried_o, o_trial_f_o) → lv_has ls 15 [(10, .int x117), (9, .int x118), (8, .int x119), (7, .int x136), (6, .int x121), (5, .int x122), (4, .int x123), (3, .int (rPats (p0).toNatClampNeg)), (2, .int (o_fields_f ((1 : Int32)).toNatClampNeg)), (0, .ref o), (1, .int p0)] → va_P D vwCl [(o, .inr (6, [.int o_thrown, .int (115 : Int32), .ref o_ops, .ref o_sizes, .ref o_patterns, .ref o_leads, .ref o_codes, .ref o_tells, .ref o_numbers, .ref o_fields, .ref o_found, .long o_number, .long o_foundNumber, .ref o_bytes, .ref o_trial, .ref o_fed, .int o_length, .int x160, .int o_given, .int o_at, .int o_pfx, .int o_pfd, .int o_short0])), (o_ops, .inl (cI, 160, .inl rOps)), (o_sizes, .inl (cI, 160, .inl rSizes)), (o_patterns, .inl (cI, 160, .inl rPats)), (o_leads, .inl (cI, 160, .inl rLeads)), (o_codes, .inl (cI, 160, .inl rCodes)), (o_tells, .inl (cI, 160, .inl rTells)), (o_numbers, .inl (cI, 160, .inl rNums)), (o_fields, .inl (cI, 13, .inl o_fields_f)), (o_trial, .inl (cI, 20, .inl x161))] H → va_D A [(o, .inr (6, [.int o_thrown, .int (115 : Int32), .ref o_ops, .ref o_sizes, .ref o_patterns, .ref o_leads, .ref o_codes, .ref o_tells, .ref o_numbers, .ref o_fields, .ref o_found, .long o_number, .long o_foundNumber, .ref o_bytes, .ref o_trial, .ref o_fed, .int o_length, .int x160, .int o_given, .int o_at, .int o_pfx, .int o_pfd, .int o_short0])), (o_ops, .inl (cI, 160, .inl rOps)), (o_sizes, .inl (cI, 160, .inl rSizes)), (o_patterns, .inl (cI, 160, .inl rPats)), (o_leads, .inl (cI, 160, .inl rLeads)), (o_codes, .inl (cI, 160, .inl rCodes)), (o_tells, .inl (cI, 160, .inl rTells)), (o_numbers, .inl (cI, 160, .inl rNums)), (o_fields, .inl (cI, 13, .inl o_fields_f)), (o_trial, .inl (cI, 20, .inl x161))] → va_S A s.heap H locs → W p l e (qr 3 73) s m args below meth c H locs 0 0 Z (F0 m 538 ls []) := by
                          intro x160 hv_x160 x161 ls H locs E hl hP hD hS
                          rw [f_X7_tries_J162] at E
                          refine lv_aload_n hx hb dX7_tries_538 rfl (lv_at hl 9 rfl) ?_
                          refine va_get (D := D) (ci := 6) (v := .ref o_codes) (C := RX7) (T := TX7) (N := 23) hx hb hts hi_X7 hown hK hP 0 rfl rfl 6 (by decide) lk22 (fun _ h9 => h9) rfl dX7_tries_539 ?_
                          refine lv_iload_n hx hb dX7_tries_542 rfl (lv_at hl 10 rfl) ?_
                          refine va_iald hx hb hK hP 5 0 rfl rfl (qv_in (⟨hv_p0.1, hv_p0.2⟩ : qv (0) (114) p0) (by decide) (by decide)) dX7_tries_543 ?_
                          refine lv_aload_n hx hb dX7_tries_544 rfl (lv_at hl 9 rfl) ?_
                          refine va_get (D := D) (ci := 6) (v := .ref o_sizes) (C := RX7) (T := TX7) (N := 23) hx hb hts hi_X7 hown hK hP 0 rfl rfl 3 (by decide) lk13 (fun _ h9 => h9) rfl dX7_tries_545 ?_
                          refine lv_iload_n hx hb dX7_tries_548 rfl (lv_at hl 10 rfl) ?_
                          refine va_iald hx hb hK hP 2 0 rfl rfl (qv_in (⟨hv_p0.1, hv_p0.2⟩ : qv (0) (114) p0) (by decide) (by decide)) dX7_tries_549 ?_
                          have J166 : ∀ (x165 : Int32) (hb_x165 : x165 = 0 ∨ x165 = 1) (hv_x165 : qv (0) (1) x165) (ls : Array Slot) (H : Heap) (locs : List Loc), f_X7_tries_J166 o_number o_fields_f p0 x118 x119 x122 x160 x161 x165 = (r_o, o_tried_o, o_trial_f_o) → lv_has ls 15 [(10, .int x117), (9, .int x118), (8, .int x119), (7, .int x136), (6, .int x121), (5, .int x122), (4, .int x123), (3, .int (rPats (p0).toNatClampNeg)), (2, .int (o_fields_f ((1 : Int32)).toNatClampNeg)), (0, .ref o), (1, .int p0)] → va_P D vwCl [(o, .inr (6, [.int o_thrown, .int (115 : Int32), .ref o_ops, .ref o_sizes, .ref o_patterns, .ref o_leads, .ref o_codes, .ref o_tells, .ref o_numbers, .ref o_fields, .ref o_found, .long o_number, .long o_foundNumber, .ref o_bytes, .ref o_trial, .ref o_fed, .int o_length, .int x160, .int o_given, .int o_at, .int o_pfx, .int o_pfd, .int o_short0])), (o_ops, .inl (cI, 160, .inl rOps)), (o_sizes, .inl (cI, 160, .inl rSizes)), (o_patterns, .inl (cI, 160, .inl rPats)), (o_leads, .inl (cI, 160, .inl rLeads)), (o_codes, .inl (cI, 160, .inl rCodes)), (o_tells, .inl (cI, 160, .inl rTells)), (o_numbers, .inl (cI, 160, .inl rNums)), (o_fields, .inl (cI, 13, .inl o_fields_f)), (o_trial, .inl (cI, 20, .inl x161))] H → va_D A [(o, .inr (6, [.int o_thrown, .int (115 : Int32), .ref o_ops, .ref o_sizes, .ref o_patterns, .ref o_leads, .ref o_codes, .ref o_tells, .ref o_numbers, .ref o_fields, .ref o_found, .long o_number, .long o_foundNumber, .ref o_bytes, .ref o_trial, .ref o_fed, .int o_length, .int x160, .int o_given, .int o_at, .int o_pfx, .int o_pfd, .int o_short0])), (o_ops, .inl (cI, 160, .inl rOps)), (o_sizes, .inl (cI, 160, .inl rSizes)), (o_patterns, .inl (cI, 160, .inl rPats)), (o_leads, .inl (cI, 160, .inl rLeads)), (o_codes, .inl (cI, 160, .inl rCodes)), (o_tells, .inl (cI, 160, .inl rTells)), (o_numbers, .inl (cI, 160, .inl rNums)), (o_fields, .inl (cI, 13, .inl o_fields_f)), (o_trial, .inl (cI, 20, .inl x161))] → va_S A s.heap H locs → W p l e (qr 3 73) s m args below meth c H locs 0 0 Z (F0 m 563 ls [.int x165, .int (rCodes (p0).toNatClampNeg)]) := by
                            intro x165 hb_x165 hv_x165 ls H locs E hl hP hD hS
                            rw [f_X7_tries_J166] at E
                            refine lv_iadd hx hb dX7_tries_563 ?_
                            refine lv_aload_n hx hb dX7_tries_564 rfl (lv_at hl 9 rfl) ?_
                            refine va_get (D := D) (ci := 6) (v := .ref o_ops) (C := RX7) (T := TX7) (N := 23) hx hb hts hi_X7 hown hK hP 0 rfl rfl 2 (by decide) lk7 (fun _ h9 => h9) rfl dX7_tries_565 ?_
                            refine lv_iload_n hx hb dX7_tries_568 rfl (lv_at hl 10 rfl) ?_
                            refine va_iald hx hb hK hP 1 0 rfl rfl (qv_in (⟨hv_p0.1, hv_p0.2⟩ : qv (0) (114) p0) (by decide) (by decide)) dX7_tries_569 ?_
                            refine qw_callS (As := [.int (rOps (p0).toNatClampNeg)]) (rest := [.int ((rCodes (p0).toNatClampNeg) + x165)]) (ws' := [(o, .inr (6, [.int o_thrown, .int (115 : Int32), .ref o_ops, .ref o_sizes, .ref o_patterns, .ref o_leads, .ref o_codes, .ref o_tells, .ref o_numbers, .ref o_fields, .ref o_found, .long o_number, .long o_foundNumber, .ref o_bytes, .ref o_trial, .ref o_fed, .int o_length, .int x160, .int o_given, .int o_at, .int o_pfx, .int o_pfd, .int o_short0])), (o_ops, .inl (cI, 160, .inl rOps)), (o_sizes, .inl (cI, 160, .inl rSizes)), (o_patterns, .inl (cI, 160, .inl rPats)), (o_leads, .inl (cI, 160, .inl rLeads)), (o_codes, .inl (cI, 160, .inl rCodes)), (o_tells, .inl (cI, 160, .inl rTells)), (o_numbers, .inl (cI, 160, .inl rNums)), (o_fields, .inl (cI, 13, .inl o_fields_f)), (o_trial, .inl (cI, 20, .inl x161))]) (st1 := [.int (f_X7_conditional (rOps (p0).toNatClampNeg)), .int ((rCodes (p0).toNatClampNeg) + x165)]) ⟨hx, hb, hml, hown, hts⟩ (c_X7_conditional l D cI tT (rOps (p0).toNatClampNeg) (f_X7_conditional (rOps (p0).toNatClampNeg)) rfl) (va_cwS 1 hts gX7_tries_X7_conditional rfl rfl rfl (by decide +kernel) ⟨Nat.le_of_ble_eq_true rfl, Nat.le_of_ble_eq_true rfl⟩) hXg hK hP hD hS hA hXs [] rfl rfl  rfl rfl rfl hl.1 rfl (Nat.le_of_ble_eq_true rfl) rfl ⟨Nat.zero_le _, Nat.zero_le _⟩ dX7_tries_570 (fun H locs hP hD hS => ?_)
                            have J169 : ∀ (x168 : Int32) (ls : Array Slot) (H : Heap) (locs : List Loc), f_X7_tries_J169 o_number o_fields_f p0 x118 x119 x122 x160 x161 x165 x168 = (r_o, o_tried_o, o_trial_f_o) → lv_has ls 15 [(10, .int x117), (9, .int x118), (8, .int x119), (7, .int x136), (6, .int x121), (5, .int x122), (4, .int x123), (3, .int (rPats (p0).toNatClampNeg)), (2, .int (o_fields_f ((1 : Int32)).toNatClampNeg)), (0, .ref o), (1, .int p0)] → va_P D vwCl [(o, .inr (6, [.int o_thrown, .int (115 : Int32), .ref o_ops, .ref o_sizes, .ref o_patterns, .ref o_leads, .ref o_codes, .ref o_tells, .ref o_numbers, .ref o_fields, .ref o_found, .long o_number, .long o_foundNumber, .ref o_bytes, .ref o_trial, .ref o_fed, .int o_length, .int x160, .int o_given, .int o_at, .int o_pfx, .int o_pfd, .int o_short0])), (o_ops, .inl (cI, 160, .inl rOps)), (o_sizes, .inl (cI, 160, .inl rSizes)), (o_patterns, .inl (cI, 160, .inl rPats)), (o_leads, .inl (cI, 160, .inl rLeads)), (o_codes, .inl (cI, 160, .inl rCodes)), (o_tells, .inl (cI, 160, .inl rTells)), (o_numbers, .inl (cI, 160, .inl rNums)), (o_fields, .inl (cI, 13, .inl o_fields_f)), (o_trial, .inl (cI, 20, .inl x161))] H → va_D A [(o, .inr (6, [.int o_thrown, .int (115 : Int32), .ref o_ops, .ref o_sizes, .ref o_patterns, .ref o_leads, .ref o_codes, .ref o_tells, .ref o_numbers, .ref o_fields, .ref o_found, .long o_number, .long o_foundNumber, .ref o_bytes, .ref o_trial, .ref o_fed, .int o_length, .int x160, .int o_given, .int o_at, .int o_pfx, .int o_pfd, .int o_short0])), (o_ops, .inl (cI, 160, .inl rOps)), (o_sizes, .inl (cI, 160, .inl rSizes)), (o_patterns, .inl (cI, 160, .inl rPats)), (o_leads, .inl (cI, 160, .inl rLeads)), (o_codes, .inl (cI, 160, .inl rCodes)), (o_tells, .inl (cI, 160, .inl rTells)), (o_numbers, .inl (cI, 160, .inl rNums)), (o_fields, .inl (cI, 13, .inl o_fields_f)), (o_trial, .inl (cI, 20, .inl x161))] → va_S A s.heap H locs → W p l e (qr 3 73) s m args below meth c H locs 0 0 Z (F0 m 586 ls [.int x168, .int ((rCodes (p0).toNatClampNeg) + x165)]) := by
                              intro x168 ls H locs E hl hP hD hS
                              rw [f_X7_tries_J169] at E
                              refine lv_iadd hx hb dX7_tries_586 ?_
                              refine lv_istore (lv' := [(10, .int (((rCodes (p0).toNatClampNeg) + x165) + x168)), (9, .int x118), (8, .int x119), (7, .int x136), (6, .int x121), (5, .int x122), (4, .int x123), (3, .int (rPats (p0).toNatClampNeg)), (2, .int (o_fields_f ((1 : Int32)).toNatClampNeg)), (0, .ref o), (1, .int p0)]) hx hb dX7_tries_587 hl (by decide) rfl (fun ls hl => ?_)
                              refine lv_aload_n hx hb dX7_tries_589 rfl (lv_at hl 9 rfl) ?_
                              refine lv_iload_n hx hb dX7_tries_590 rfl (lv_at hl 7 rfl) ?_
                              refine lv_iconst (v := (5 : Int32)) hx hb dX7_tries_591 (by decide) ?_
                              have J173 : ∀ (x172 : Int32) (ls : Array Slot) (H : Heap) (locs : List Loc), f_X7_tries_J173 o_number o_fields_f p0 x118 x119 x122 x160 x161 x172 = (r_o, o_tried_o, o_trial_f_o) → lv_has ls 15 [(10, .int (((rCodes (p0).toNatClampNeg) + x165) + x168)), (9, .int x118), (8, .int x119), (7, .int x136), (6, .int x121), (5, .int x122), (4, .int x123), (3, .int (rPats (p0).toNatClampNeg)), (2, .int (o_fields_f ((1 : Int32)).toNatClampNeg)), (0, .ref o), (1, .int p0)] → va_P D vwCl [(o, .inr (6, [.int o_thrown, .int (115 : Int32), .ref o_ops, .ref o_sizes, .ref o_patterns, .ref o_leads, .ref o_codes, .ref o_tells, .ref o_numbers, .ref o_fields, .ref o_found, .long o_number, .long o_foundNumber, .ref o_bytes, .ref o_trial, .ref o_fed, .int o_length, .int x160, .int o_given, .int o_at, .int o_pfx, .int o_pfd, .int o_short0])), (o_ops, .inl (cI, 160, .inl rOps)), (o_sizes, .inl (cI, 160, .inl rSizes)), (o_patterns, .inl (cI, 160, .inl rPats)), (o_leads, .inl (cI, 160, .inl rLeads)), (o_codes, .inl (cI, 160, .inl rCodes)), (o_tells, .inl (cI, 160, .inl rTells)), (o_numbers, .inl (cI, 160, .inl rNums)), (o_fields, .inl (cI, 13, .inl o_fields_f)), (o_trial, .inl (cI, 20, .inl x161))] H → va_D A [(o, .inr (6, [.int o_thrown, .int (115 : Int32), .ref o_ops, .ref o_sizes, .ref o_patterns, .ref o_leads, .ref o_codes, .ref o_tells, .ref o_numbers, .ref o_fields, .ref o_found, .long o_number, .long o_foundNumber, .ref o_bytes, .ref o_trial, .ref o_fed, .int o_length, .int x160, .int o_given, .int o_at, .int o_pfx, .int o_pfd, .int o_short0])), (o_ops, .inl (cI, 160, .inl rOps)), (o_sizes, .inl (cI, 160, .inl rSizes)), (o_patterns, .inl (cI, 160, .inl rPats)), (o_leads, .inl (cI, 160, .inl rLeads)), (o_codes, .inl (cI, 160, .inl rCodes)), (o_tells, .inl (cI, 160, .inl rTells)), (o_numbers, .inl (cI, 160, .inl rNums)), (o_fields, .inl (cI, 13, .inl o_fields_f)), (o_trial, .inl (cI, 20, .inl x161))] → va_S A s.heap H locs → W p l e (qr 3 73) s m args below meth c H locs 0 0 Z (F0 m 611 ls [.int x172, .ref o]) := by
                                intro x172 ls H locs E hl hP hD hS
                                rw [f_X7_tries_J173] at E
                                obtain ⟨y174, y175, q176⟩ : ∃ y174 y175, (f_X7_put x160 x161 x172) = (y174, y175) := ⟨_, _, rfl⟩
                                rw [q176] at E
                                dsimp only at E
                                refine qw_callV (As := [.int x172]) (rest := []) (ws' := [(o, .inr (6, [.int o_thrown, .int (115 : Int32), .ref o_ops, .ref o_sizes, .ref o_patterns, .ref o_leads, .ref o_codes, .ref o_tells, .ref o_numbers, .ref o_fields, .ref o_found, .long o_number, .long o_foundNumber, .ref o_bytes, .ref o_trial, .ref o_fed, .int o_length, .int y174, .int o_given, .int o_at, .int o_pfx, .int o_pfd, .int o_short0])), (o_ops, .inl (cI, 160, .inl rOps)), (o_sizes, .inl (cI, 160, .inl rSizes)), (o_patterns, .inl (cI, 160, .inl rPats)), (o_leads, .inl (cI, 160, .inl rLeads)), (o_codes, .inl (cI, 160, .inl rCodes)), (o_tells, .inl (cI, 160, .inl rTells)), (o_numbers, .inl (cI, 160, .inl rNums)), (o_fields, .inl (cI, 13, .inl o_fields_f)), (o_trial, .inl (cI, 20, .inl y175))]) (st1 := []) ⟨hx, hb, hml, hown, hts⟩ (c_X7_put l D cI tT o o_ops o_sizes o_patterns o_leads o_codes o_tells o_numbers o_fields o_found o_bytes o_trial o_fed o_thrown o_number o_foundNumber o_length x160 o_given o_at o_pfx o_pfd o_short0 x161 x172 (qv_w (⟨hv_x160.1, hv_x160.2⟩ : qv (0) (3) x160) (by decide) (by decide) : qv (0) (19) x160) y174 y175 q176) (cwV 1 hts gX7_tries_X7_put rfl rfl rfl (by decide +kernel) ⟨Nat.le_of_ble_eq_true rfl, Nat.le_of_ble_eq_true rfl⟩) hXg hK hP hD hS hA hXs [0, 9] rfl rfl  rfl rfl rfl rfl rfl rfl hl.1 rfl (Nat.le_of_ble_eq_true rfl) rfl ⟨Nat.zero_le _, Nat.zero_le _⟩ dX7_tries_611 (fun H locs hP hD hS => ?_)
                                refine lv_iload_n hx hb dX7_tries_614 rfl (lv_at hl 7 rfl) ?_
                                refine qw_callS (As := [.int (rPats (p0).toNatClampNeg)]) (rest := []) (ws' := [(o, .inr (6, [.int o_thrown, .int (115 : Int32), .ref o_ops, .ref o_sizes, .ref o_patterns, .ref o_leads, .ref o_codes, .ref o_tells, .ref o_numbers, .ref o_fields, .ref o_found, .long o_number, .long o_foundNumber, .ref o_bytes, .ref o_trial, .ref o_fed, .int o_length, .int y174, .int o_given, .int o_at, .int o_pfx, .int o_pfd, .int o_short0])), (o_ops, .inl (cI, 160, .inl rOps)), (o_sizes, .inl (cI, 160, .inl rSizes)), (o_patterns, .inl (cI, 160, .inl rPats)), (o_leads, .inl (cI, 160, .inl rLeads)), (o_codes, .inl (cI, 160, .inl rCodes)), (o_tells, .inl (cI, 160, .inl rTells)), (o_numbers, .inl (cI, 160, .inl rNums)), (o_fields, .inl (cI, 13, .inl o_fields_f)), (o_trial, .inl (cI, 20, .inl y175))]) (st1 := [.int (f_X7_hasForm (rPats (p0).toNatClampNeg))]) ⟨hx, hb, hml, hown, hts⟩ (c_X7_hasForm l D cI tT (rPats (p0).toNatClampNeg) (f_X7_hasForm (rPats (p0).toNatClampNeg)) rfl) (va_cwS 1 hts gX7_tries_X7_hasForm rfl rfl rfl (by decide +kernel) ⟨Nat.le_of_ble_eq_true rfl, Nat.le_of_ble_eq_true rfl⟩) hXg hK hP hD hS hA hXs [] rfl rfl  rfl rfl rfl hl.1 rfl (Nat.le_of_ble_eq_true rfl) rfl ⟨Nat.zero_le _, Nat.zero_le _⟩ dX7_tries_615 (fun H locs hP hD hS => ?_)
                                have J192 : ∀ (x190 : Int32) (hv_x190 : qv (0) (10) x190) (x191 : (Nat → Int32)) (ls : Array Slot) (H : Heap) (locs : List Loc), f_X7_tries_J192 o_number o_fields_f p0 x190 x191 = (r_o, o_tried_o, o_trial_f_o) → lv_has ls 15 [(10, .int (((rCodes (p0).toNatClampNeg) + x165) + x168)), (9, .int x118), (8, .int x119), (7, .int x136), (6, .int x121), (5, .int x122), (4, .int x123), (3, .int (rPats (p0).toNatClampNeg)), (2, .int (o_fields_f ((1 : Int32)).toNatClampNeg)), (0, .ref o), (1, .int p0)] → va_P D vwCl [(o, .inr (6, [.int o_thrown, .int (115 : Int32), .ref o_ops, .ref o_sizes, .ref o_patterns, .ref o_leads, .ref o_codes, .ref o_tells, .ref o_numbers, .ref o_fields, .ref o_found, .long o_number, .long o_foundNumber, .ref o_bytes, .ref o_trial, .ref o_fed, .int o_length, .int x190, .int o_given, .int o_at, .int o_pfx, .int o_pfd, .int o_short0])), (o_ops, .inl (cI, 160, .inl rOps)), (o_sizes, .inl (cI, 160, .inl rSizes)), (o_patterns, .inl (cI, 160, .inl rPats)), (o_leads, .inl (cI, 160, .inl rLeads)), (o_codes, .inl (cI, 160, .inl rCodes)), (o_tells, .inl (cI, 160, .inl rTells)), (o_numbers, .inl (cI, 160, .inl rNums)), (o_fields, .inl (cI, 13, .inl o_fields_f)), (o_trial, .inl (cI, 20, .inl x191))] H → va_D A [(o, .inr (6, [.int o_thrown, .int (115 : Int32), .ref o_ops, .ref o_sizes, .ref o_patterns, .ref o_leads, .ref o_codes, .ref o_tells, .ref o_numbers, .ref o_fields, .ref o_found, .long o_number, .long o_foundNumber, .ref o_bytes, .ref o_trial, .ref o_fed, .int o_length, .int x190, .int o_given, .int o_at, .int o_pfx, .int o_pfd, .int o_short0])), (o_ops, .inl (cI, 160, .inl rOps)), (o_sizes, .inl (cI, 160, .inl rSizes)), (o_patterns, .inl (cI, 160, .inl rPats)), (o_leads, .inl (cI, 160, .inl rLeads)), (o_codes, .inl (cI, 160, .inl rCodes)), (o_tells, .inl (cI, 160, .inl rTells)), (o_numbers, .inl (cI, 160, .inl rNums)), (o_fields, .inl (cI, 13, .inl o_fields_f)), (o_trial, .inl (cI, 20, .inl x191))] → va_S A s.heap H locs → W p l e (qr 3 73) s m args below meth c H locs 0 0 Z (F0 m 658 ls []) := by
                                  intro x190 hv_x190 x191 ls H locs E hl hP hD hS
                                  rw [f_X7_tries_J192] at E
                                  refine lv_aload_n hx hb dX7_tries_658 rfl (lv_at hl 9 rfl) ?_
                                  refine lv_aload_n hx hb dX7_tries_659 rfl (lv_at hl 9 rfl) ?_
                                  refine va_get (D := D) (ci := 6) (v := .long o_number) (C := RX7) (T := TX7) (N := 23) hx hb hts hi_X7 hown hK hP 0 rfl rfl 11 (by decide) lk60 (fun _ h9 => h9) rfl dX7_tries_660 ?_
                                  refine lv_aload_n hx hb dX7_tries_663 rfl (lv_at hl 9 rfl) ?_
                                  refine va_get (D := D) (ci := 6) (v := .ref o_numbers) (C := RX7) (T := TX7) (N := 23) hx hb hts hi_X7 hown hK hP 0 rfl rfl 8 (by decide) lk28 (fun _ h9 => h9) rfl dX7_tries_664 ?_
                                  refine lv_iload_n hx hb dX7_tries_667 rfl (lv_at hl 10 rfl) ?_
                                  refine va_iald hx hb hK hP 7 0 rfl rfl (qv_in (⟨hv_p0.1, hv_p0.2⟩ : qv (0) (114) p0) (by decide) (by decide)) dX7_tries_668 ?_
                                  refine lv_iload_n hx hb dX7_tries_669 rfl (lv_at hl 8 rfl) ?_
                                  refine qw_callS (As := [.int (rNums (p0).toNatClampNeg), .int (o_fields_f ((1 : Int32)).toNatClampNeg)]) (rest := [.long o_number, .ref o]) (ws' := [(o, .inr (6, [.int o_thrown, .int (115 : Int32), .ref o_ops, .ref o_sizes, .ref o_patterns, .ref o_leads, .ref o_codes, .ref o_tells, .ref o_numbers, .ref o_fields, .ref o_found, .long o_number, .long o_foundNumber, .ref o_bytes, .ref o_trial, .ref o_fed, .int o_length, .int x190, .int o_given, .int o_at, .int o_pfx, .int o_pfd, .int o_short0])), (o_ops, .inl (cI, 160, .inl rOps)), (o_sizes, .inl (cI, 160, .inl rSizes)), (o_patterns, .inl (cI, 160, .inl rPats)), (o_leads, .inl (cI, 160, .inl rLeads)), (o_codes, .inl (cI, 160, .inl rCodes)), (o_tells, .inl (cI, 160, .inl rTells)), (o_numbers, .inl (cI, 160, .inl rNums)), (o_fields, .inl (cI, 13, .inl o_fields_f)), (o_trial, .inl (cI, 20, .inl x191))]) (st1 := [.int (f_X7_room (rNums (p0).toNatClampNeg) (o_fields_f ((1 : Int32)).toNatClampNeg)), .long o_number, .ref o]) ⟨hx, hb, hml, hown, hts⟩ (c_X7_room l D cI tT (rNums (p0).toNatClampNeg) (o_fields_f ((1 : Int32)).toNatClampNeg) (f_X7_room (rNums (p0).toNatClampNeg) (o_fields_f ((1 : Int32)).toNatClampNeg)) rfl) (va_cwS 2 hts gX7_tries_X7_room rfl rfl rfl (by decide +kernel) ⟨Nat.le_of_ble_eq_true rfl, Nat.le_of_ble_eq_true rfl⟩) hXg hK hP hD hS hA hXs [] rfl rfl  rfl rfl rfl hl.1 rfl (Nat.le_of_ble_eq_true rfl) rfl ⟨Nat.zero_le _, Nat.zero_le _⟩ dX7_tries_670 (fun H locs hP hD hS => ?_)
                                  obtain ⟨y193, y194, q195⟩ : ∃ y193 y194, (f_X7_putAll x190 x191 o_number (f_X7_room (rNums (p0).toNatClampNeg) (o_fields_f ((1 : Int32)).toNatClampNeg))) = (y193, y194) := ⟨_, _, rfl⟩
                                  rw [q195] at E
                                  dsimp only at E
                                  refine qw_callV (As := [.long o_number, .int (f_X7_room (rNums (p0).toNatClampNeg) (o_fields_f ((1 : Int32)).toNatClampNeg))]) (rest := []) (ws' := [(o, .inr (6, [.int o_thrown, .int (115 : Int32), .ref o_ops, .ref o_sizes, .ref o_patterns, .ref o_leads, .ref o_codes, .ref o_tells, .ref o_numbers, .ref o_fields, .ref o_found, .long o_number, .long o_foundNumber, .ref o_bytes, .ref o_trial, .ref o_fed, .int o_length, .int y193, .int o_given, .int o_at, .int o_pfx, .int o_pfd, .int o_short0])), (o_ops, .inl (cI, 160, .inl rOps)), (o_sizes, .inl (cI, 160, .inl rSizes)), (o_patterns, .inl (cI, 160, .inl rPats)), (o_leads, .inl (cI, 160, .inl rLeads)), (o_codes, .inl (cI, 160, .inl rCodes)), (o_tells, .inl (cI, 160, .inl rTells)), (o_numbers, .inl (cI, 160, .inl rNums)), (o_fields, .inl (cI, 13, .inl o_fields_f)), (o_trial, .inl (cI, 20, .inl y194))]) (st1 := []) ⟨hx, hb, hml, hown, hts⟩ (c_X7_putAll l D cI tT o o_ops o_sizes o_patterns o_leads o_codes o_tells o_numbers o_fields o_found o_bytes o_trial o_fed o_thrown o_number o_foundNumber o_length x190 o_given o_at o_pfx o_pfd o_short0 x191 o_number (f_X7_room (rNums (p0).toNatClampNeg) (o_fields_f ((1 : Int32)).toNatClampNeg)) (qv_w (⟨hv_x190.1, hv_x190.2⟩ : qv (0) (10) x190) (by decide) (by decide) : qv (0) (12) x190) (qv_w (⟨(post_X7_room rfl : qv (0) (8) (f_X7_room (rNums (p0).toNatClampNeg) (o_fields_f ((1 : Int32)).toNatClampNeg))).1, (post_X7_room rfl : qv (0) (8) (f_X7_room (rNums (p0).toNatClampNeg) (o_fields_f ((1 : Int32)).toNatClampNeg))).2⟩ : qv (0) (8) (f_X7_room (rNums (p0).toNatClampNeg) (o_fields_f ((1 : Int32)).toNatClampNeg))) (by decide) (by decide) : qv (0) (8) (f_X7_room (rNums (p0).toNatClampNeg) (o_fields_f ((1 : Int32)).toNatClampNeg))) y193 y194 q195) (cwV 2 hts gX7_tries_X7_putAll rfl rfl rfl (by decide +kernel) ⟨Nat.le_of_ble_eq_true rfl, Nat.le_of_ble_eq_true rfl⟩) hXg hK hP hD hS hA hXs [0, 9] rfl rfl  rfl rfl rfl rfl rfl rfl hl.1 rfl (Nat.le_of_ble_eq_true rfl) rfl ⟨Nat.zero_le _, Nat.zero_le _⟩ dX7_tries_673 (fun H locs hP hD hS => ?_)
                                  refine lv_iconst (v := (1 : Int32)) hx hb dX7_tries_676 (by decide) ?_
                                  cases E
                                  rw [hZ]
                                  exact qw_zret hx hb hr hlk (Or.inr rfl) hP hD hS dX7_tries_677
                                refine lv_if_eq (tgt := 635) hx hb dX7_tries_618 (by decide) (fun c177 => ?_) (fun c177 => ?_)
                                · rw [if_pos c177] at E
                                  refine lv_iload_n hx hb dX7_tries_635 rfl (lv_at hl 7 rfl) ?_
                                  refine qw_callS (As := [.int (rPats (p0).toNatClampNeg)]) (rest := []) (ws' := [(o, .inr (6, [.int o_thrown, .int (115 : Int32), .ref o_ops, .ref o_sizes, .ref o_patterns, .ref o_leads, .ref o_codes, .ref o_tells, .ref o_numbers, .ref o_fields, .ref o_found, .long o_number, .long o_foundNumber, .ref o_bytes, .ref o_trial, .ref o_fed, .int o_length, .int y174, .int o_given, .int o_at, .int o_pfx, .int o_pfd, .int o_short0])), (o_ops, .inl (cI, 160, .inl rOps)), (o_sizes, .inl (cI, 160, .inl rSizes)), (o_patterns, .inl (cI, 160, .inl rPats)), (o_leads, .inl (cI, 160, .inl rLeads)), (o_codes, .inl (cI, 160, .inl rCodes)), (o_tells, .inl (cI, 160, .inl rTells)), (o_numbers, .inl (cI, 160, .inl rNums)), (o_fields, .inl (cI, 13, .inl o_fields_f)), (o_trial, .inl (cI, 20, .inl y175))]) (st1 := [.int (f_X7_hasForm (rPats (p0).toNatClampNeg))]) ⟨hx, hb, hml, hown, hts⟩ (c_X7_hasForm l D cI tT (rPats (p0).toNatClampNeg) (f_X7_hasForm (rPats (p0).toNatClampNeg)) rfl) (va_cwS 1 hts gX7_tries_X7_hasForm rfl rfl rfl (by decide +kernel) ⟨Nat.le_of_ble_eq_true rfl, Nat.le_of_ble_eq_true rfl⟩) hXg hK hP hD hS hA hXs [] rfl rfl  rfl rfl rfl hl.1 rfl (Nat.le_of_ble_eq_true rfl) rfl ⟨Nat.zero_le _, Nat.zero_le _⟩ dX7_tries_636 (fun H locs hP hD hS => ?_)
                                  refine lv_if_eq (tgt := 658) hx hb dX7_tries_639 (by decide) (fun c178 => ?_) (fun c178 => ?_)
                                  · rw [if_pos c178] at E
                                    exact J192 y174 (qv_w (⟨(post_X7_put (⟨hv_x160.1, hv_x160.2⟩ : qv (0) (3) x160) q176 (by decide) (by decide) : qv (1) (4) y174).1, (post_X7_put (⟨hv_x160.1, hv_x160.2⟩ : qv (0) (3) x160) q176 (by decide) (by decide) : qv (1) (4) y174).2⟩ : qv (1) (4) y174) (by decide) (by decide)) y175 ls _ _ E (lv_sub hl [0, 1, 2, 3, 4, 5, 6, 7, 8, 9, 10] rfl) hP hD hS
                                  · rw [if_neg c178] at E
                                    refine lv_aload_n hx hb dX7_tries_642 rfl (lv_at hl 9 rfl) ?_
                                    refine lv_sipush (v := (192 : Int32)) hx hb dX7_tries_643 (by decide) ?_
                                    refine lv_bipush (v := (8 : Int32)) hx hb dX7_tries_646 (by decide) ?_
                                    refine lv_iload hx hb dX7_tries_648 (lv_at hl 2 rfl) ?_
                                    refine lv_imul hx hb dX7_tries_650 ?_
                                    refine lv_iadd hx hb dX7_tries_651 ?_
                                    refine lv_iload hx hb dX7_tries_652 (lv_at hl 1 rfl) ?_
                                    refine lv_iadd hx hb dX7_tries_654 ?_
                                    obtain ⟨y179, y180, q181⟩ : ∃ y179 y180, (f_X7_put y174 y175 (((192 : Int32) + ((8 : Int32) * x119)) + x118)) = (y179, y180) := ⟨_, _, rfl⟩
                                    rw [q181] at E
                                    dsimp only at E
                                    refine qw_callV (As := [.int (((192 : Int32) + ((8 : Int32) * x119)) + x118)]) (rest := []) (ws' := [(o, .inr (6, [.int o_thrown, .int (115 : Int32), .ref o_ops, .ref o_sizes, .ref o_patterns, .ref o_leads, .ref o_codes, .ref o_tells, .ref o_numbers, .ref o_fields, .ref o_found, .long o_number, .long o_foundNumber, .ref o_bytes, .ref o_trial, .ref o_fed, .int o_length, .int y179, .int o_given, .int o_at, .int o_pfx, .int o_pfd, .int o_short0])), (o_ops, .inl (cI, 160, .inl rOps)), (o_sizes, .inl (cI, 160, .inl rSizes)), (o_patterns, .inl (cI, 160, .inl rPats)), (o_leads, .inl (cI, 160, .inl rLeads)), (o_codes, .inl (cI, 160, .inl rCodes)), (o_tells, .inl (cI, 160, .inl rTells)), (o_numbers, .inl (cI, 160, .inl rNums)), (o_fields, .inl (cI, 13, .inl o_fields_f)), (o_trial, .inl (cI, 20, .inl y180))]) (st1 := []) ⟨hx, hb, hml, hown, hts⟩ (c_X7_put l D cI tT o o_ops o_sizes o_patterns o_leads o_codes o_tells o_numbers o_fields o_found o_bytes o_trial o_fed o_thrown o_number o_foundNumber o_length y174 o_given o_at o_pfx o_pfd o_short0 y175 (((192 : Int32) + ((8 : Int32) * x119)) + x118) (qv_w (⟨(post_X7_put (⟨hv_x160.1, hv_x160.2⟩ : qv (0) (3) x160) q176 (by decide) (by decide) : qv (1) (4) y174).1, (post_X7_put (⟨hv_x160.1, hv_x160.2⟩ : qv (0) (3) x160) q176 (by decide) (by decide) : qv (1) (4) y174).2⟩ : qv (1) (4) y174) (by decide) (by decide) : qv (0) (19) y174) y179 y180 q181) (cwV 1 hts gX7_tries_X7_put rfl rfl rfl (by decide +kernel) ⟨Nat.le_of_ble_eq_true rfl, Nat.le_of_ble_eq_true rfl⟩) hXg hK hP hD hS hA hXs [0, 9] rfl rfl  rfl rfl rfl rfl rfl rfl hl.1 rfl (Nat.le_of_ble_eq_true rfl) rfl ⟨Nat.zero_le _, Nat.zero_le _⟩ dX7_tries_655 (fun H locs hP hD hS => ?_)
                                    exact J192 y179 (qv_w (⟨(post_X7_put (⟨(post_X7_put (⟨hv_x160.1, hv_x160.2⟩ : qv (0) (3) x160) q176 (by decide) (by decide) : qv (1) (4) y174).1, (post_X7_put (⟨hv_x160.1, hv_x160.2⟩ : qv (0) (3) x160) q176 (by decide) (by decide) : qv (1) (4) y174).2⟩ : qv (1) (4) y174) q181 (by decide) (by decide) : qv (2) (5) y179).1, (post_X7_put (⟨(post_X7_put (⟨hv_x160.1, hv_x160.2⟩ : qv (0) (3) x160) q176 (by decide) (by decide) : qv (1) (4) y174).1, (post_X7_put (⟨hv_x160.1, hv_x160.2⟩ : qv (0) (3) x160) q176 (by decide) (by decide) : qv (1) (4) y174).2⟩ : qv (1) (4) y174) q181 (by decide) (by decide) : qv (2) (5) y179).2⟩ : qv (2) (5) y179) (by decide) (by decide)) y180 ls _ _ E (lv_sub hl [0, 1, 2, 3, 4, 5, 6, 7, 8, 9, 10] rfl) hP hD hS
                                · rw [if_neg c177] at E
                                  refine lv_iload hx hb dX7_tries_621 (lv_at hl 5 rfl) ?_
                                  refine lv_if_eq (tgt := 635) hx hb dX7_tries_623 (by decide) (fun c182 => ?_) (fun c182 => ?_)
                                  · rw [if_pos c182] at E
                                    refine lv_iload_n hx hb dX7_tries_635 rfl (lv_at hl 7 rfl) ?_
                                    refine qw_callS (As := [.int (rPats (p0).toNatClampNeg)]) (rest := []) (ws' := [(o, .inr (6, [.int o_thrown, .int (115 : Int32), .ref o_ops, .ref o_sizes, .ref o_patterns, .ref o_leads, .ref o_codes, .ref o_tells, .ref o_numbers, .ref o_fields, .ref o_found, .long o_number, .long o_foundNumber, .ref o_bytes, .ref o_trial, .ref o_fed, .int o_length, .int y174, .int o_given, .int o_at, .int o_pfx, .int o_pfd, .int o_short0])), (o_ops, .inl (cI, 160, .inl rOps)), (o_sizes, .inl (cI, 160, .inl rSizes)), (o_patterns, .inl (cI, 160, .inl rPats)), (o_leads, .inl (cI, 160, .inl rLeads)), (o_codes, .inl (cI, 160, .inl rCodes)), (o_tells, .inl (cI, 160, .inl rTells)), (o_numbers, .inl (cI, 160, .inl rNums)), (o_fields, .inl (cI, 13, .inl o_fields_f)), (o_trial, .inl (cI, 20, .inl y175))]) (st1 := [.int (f_X7_hasForm (rPats (p0).toNatClampNeg))]) ⟨hx, hb, hml, hown, hts⟩ (c_X7_hasForm l D cI tT (rPats (p0).toNatClampNeg) (f_X7_hasForm (rPats (p0).toNatClampNeg)) rfl) (va_cwS 1 hts gX7_tries_X7_hasForm rfl rfl rfl (by decide +kernel) ⟨Nat.le_of_ble_eq_true rfl, Nat.le_of_ble_eq_true rfl⟩) hXg hK hP hD hS hA hXs [] rfl rfl  rfl rfl rfl hl.1 rfl (Nat.le_of_ble_eq_true rfl) rfl ⟨Nat.zero_le _, Nat.zero_le _⟩ dX7_tries_636 (fun H locs hP hD hS => ?_)
                                    refine lv_if_eq (tgt := 658) hx hb dX7_tries_639 (by decide) (fun c183 => ?_) (fun c183 => ?_)
                                    · rw [if_pos c183] at E
                                      exact J192 y174 (qv_w (⟨(post_X7_put (⟨hv_x160.1, hv_x160.2⟩ : qv (0) (3) x160) q176 (by decide) (by decide) : qv (1) (4) y174).1, (post_X7_put (⟨hv_x160.1, hv_x160.2⟩ : qv (0) (3) x160) q176 (by decide) (by decide) : qv (1) (4) y174).2⟩ : qv (1) (4) y174) (by decide) (by decide)) y175 ls _ _ E (lv_sub hl [0, 1, 2, 3, 4, 5, 6, 7, 8, 9, 10] rfl) hP hD hS
                                    · rw [if_neg c183] at E
                                      refine lv_aload_n hx hb dX7_tries_642 rfl (lv_at hl 9 rfl) ?_
                                      refine lv_sipush (v := (192 : Int32)) hx hb dX7_tries_643 (by decide) ?_
                                      refine lv_bipush (v := (8 : Int32)) hx hb dX7_tries_646 (by decide) ?_
                                      refine lv_iload hx hb dX7_tries_648 (lv_at hl 2 rfl) ?_
                                      refine lv_imul hx hb dX7_tries_650 ?_
                                      refine lv_iadd hx hb dX7_tries_651 ?_
                                      refine lv_iload hx hb dX7_tries_652 (lv_at hl 1 rfl) ?_
                                      refine lv_iadd hx hb dX7_tries_654 ?_
                                      obtain ⟨y184, y185, q186⟩ : ∃ y184 y185, (f_X7_put y174 y175 (((192 : Int32) + ((8 : Int32) * x119)) + x118)) = (y184, y185) := ⟨_, _, rfl⟩
                                      rw [q186] at E
                                      dsimp only at E
                                      refine qw_callV (As := [.int (((192 : Int32) + ((8 : Int32) * x119)) + x118)]) (rest := []) (ws' := [(o, .inr (6, [.int o_thrown, .int (115 : Int32), .ref o_ops, .ref o_sizes, .ref o_patterns, .ref o_leads, .ref o_codes, .ref o_tells, .ref o_numbers, .ref o_fields, .ref o_found, .long o_number, .long o_foundNumber, .ref o_bytes, .ref o_trial, .ref o_fed, .int o_length, .int y184, .int o_given, .int o_at, .int o_pfx, .int o_pfd, .int o_short0])), (o_ops, .inl (cI, 160, .inl rOps)), (o_sizes, .inl (cI, 160, .inl rSizes)), (o_patterns, .inl (cI, 160, .inl rPats)), (o_leads, .inl (cI, 160, .inl rLeads)), (o_codes, .inl (cI, 160, .inl rCodes)), (o_tells, .inl (cI, 160, .inl rTells)), (o_numbers, .inl (cI, 160, .inl rNums)), (o_fields, .inl (cI, 13, .inl o_fields_f)), (o_trial, .inl (cI, 20, .inl y185))]) (st1 := []) ⟨hx, hb, hml, hown, hts⟩ (c_X7_put l D cI tT o o_ops o_sizes o_patterns o_leads o_codes o_tells o_numbers o_fields o_found o_bytes o_trial o_fed o_thrown o_number o_foundNumber o_length y174 o_given o_at o_pfx o_pfd o_short0 y175 (((192 : Int32) + ((8 : Int32) * x119)) + x118) (qv_w (⟨(post_X7_put (⟨hv_x160.1, hv_x160.2⟩ : qv (0) (3) x160) q176 (by decide) (by decide) : qv (1) (4) y174).1, (post_X7_put (⟨hv_x160.1, hv_x160.2⟩ : qv (0) (3) x160) q176 (by decide) (by decide) : qv (1) (4) y174).2⟩ : qv (1) (4) y174) (by decide) (by decide) : qv (0) (19) y174) y184 y185 q186) (cwV 1 hts gX7_tries_X7_put rfl rfl rfl (by decide +kernel) ⟨Nat.le_of_ble_eq_true rfl, Nat.le_of_ble_eq_true rfl⟩) hXg hK hP hD hS hA hXs [0, 9] rfl rfl  rfl rfl rfl rfl rfl rfl hl.1 rfl (Nat.le_of_ble_eq_true rfl) rfl ⟨Nat.zero_le _, Nat.zero_le _⟩ dX7_tries_655 (fun H locs hP hD hS => ?_)
                                      exact J192 y184 (qv_w (⟨(post_X7_put (⟨(post_X7_put (⟨hv_x160.1, hv_x160.2⟩ : qv (0) (3) x160) q176 (by decide) (by decide) : qv (1) (4) y174).1, (post_X7_put (⟨hv_x160.1, hv_x160.2⟩ : qv (0) (3) x160) q176 (by decide) (by decide) : qv (1) (4) y174).2⟩ : qv (1) (4) y174) q186 (by decide) (by decide) : qv (2) (5) y184).1, (post_X7_put (⟨(post_X7_put (⟨hv_x160.1, hv_x160.2⟩ : qv (0) (3) x160) q176 (by decide) (by decide) : qv (1) (4) y174).1, (post_X7_put (⟨hv_x160.1, hv_x160.2⟩ : qv (0) (3) x160) q176 (by decide) (by decide) : qv (1) (4) y174).2⟩ : qv (1) (4) y174) q186 (by decide) (by decide) : qv (2) (5) y184).2⟩ : qv (2) (5) y184) (by decide) (by decide)) y185 ls _ _ E (lv_sub hl [0, 1, 2, 3, 4, 5, 6, 7, 8, 9, 10] rfl) hP hD hS
                                  · rw [if_neg c182] at E
                                    refine lv_aload_n hx hb dX7_tries_626 rfl (lv_at hl 9 rfl) ?_
                                    refine lv_iload hx hb dX7_tries_627 (lv_at hl 2 rfl) ?_
                                    obtain ⟨y187, y188, q189⟩ : ∃ y187 y188, (f_X7_putMemory y174 o_fields_f y175 x119) = (y187, y188) := ⟨_, _, rfl⟩
                                    rw [q189] at E
                                    dsimp only at E
                                    refine qw_callV (As := [.int x119]) (rest := []) (ws' := [(o, .inr (6, [.int o_thrown, .int (115 : Int32), .ref o_ops, .ref o_sizes, .ref o_patterns, .ref o_leads, .ref o_codes, .ref o_tells, .ref o_numbers, .ref o_fields, .ref o_found, .long o_number, .long o_foundNumber, .ref o_bytes, .ref o_trial, .ref o_fed, .int o_length, .int y187, .int o_given, .int o_at, .int o_pfx, .int o_pfd, .int o_short0])), (o_ops, .inl (cI, 160, .inl rOps)), (o_sizes, .inl (cI, 160, .inl rSizes)), (o_patterns, .inl (cI, 160, .inl rPats)), (o_leads, .inl (cI, 160, .inl rLeads)), (o_codes, .inl (cI, 160, .inl rCodes)), (o_tells, .inl (cI, 160, .inl rTells)), (o_numbers, .inl (cI, 160, .inl rNums)), (o_fields, .inl (cI, 13, .inl o_fields_f)), (o_trial, .inl (cI, 20, .inl y188))]) (st1 := []) ⟨hx, hb, hml, hown, hts⟩ (c_X7_putMemory l D cI tT o o_ops o_sizes o_patterns o_leads o_codes o_tells o_numbers o_fields o_found o_bytes o_trial o_fed o_thrown o_number o_foundNumber o_length y174 o_given o_at o_pfx o_pfd o_short0 o_fields_f y175 x119 (qv_w (⟨(post_X7_put (⟨hv_x160.1, hv_x160.2⟩ : qv (0) (3) x160) q176 (by decide) (by decide) : qv (1) (4) y174).1, (post_X7_put (⟨hv_x160.1, hv_x160.2⟩ : qv (0) (3) x160) q176 (by decide) (by decide) : qv (1) (4) y174).2⟩ : qv (1) (4) y174) (by decide) (by decide) : qv (0) (4) y174) y187 y188 q189) (cwV 1 hts gX7_tries_X7_putMemory rfl rfl rfl (by decide +kernel) ⟨Nat.le_of_ble_eq_true rfl, Nat.le_of_ble_eq_true rfl⟩) hXg hK hP hD hS hA hXs [0, 8, 9] rfl rfl  rfl rfl rfl rfl rfl rfl hl.1 rfl (Nat.le_of_ble_eq_true rfl) rfl ⟨Nat.zero_le _, Nat.zero_le _⟩ dX7_tries_629 (fun H locs hP hD hS => ?_)
                                    refine lv_goto (tgt := 658) hx hb dX7_tries_632 (by decide) ?_
                                    exact J192 y187 (qv_w (⟨(post_X7_putMemory (qv_w (⟨(post_X7_put (⟨hv_x160.1, hv_x160.2⟩ : qv (0) (3) x160) q176 (by decide) (by decide) : qv (1) (4) y174).1, (post_X7_put (⟨hv_x160.1, hv_x160.2⟩ : qv (0) (3) x160) q176 (by decide) (by decide) : qv (1) (4) y174).2⟩ : qv (1) (4) y174) (by decide) (by decide)) q189 : qv (0) (10) y187).1, (post_X7_putMemory (qv_w (⟨(post_X7_put (⟨hv_x160.1, hv_x160.2⟩ : qv (0) (3) x160) q176 (by decide) (by decide) : qv (1) (4) y174).1, (post_X7_put (⟨hv_x160.1, hv_x160.2⟩ : qv (0) (3) x160) q176 (by decide) (by decide) : qv (1) (4) y174).2⟩ : qv (1) (4) y174) (by decide) (by decide)) q189 : qv (0) (10) y187).2⟩ : qv (0) (10) y187) (by decide) (by decide)) y188 ls _ _ E (lv_sub hl [0, 1, 2, 3, 4, 5, 6, 7, 8, 9, 10] rfl) hP hD hS
                              refine lv_icmp_eq (tgt := 601) hx hb dX7_tries_592 (by decide) (fun c170 => ?_) (fun c170 => ?_)
                              · rw [if_pos c170] at E
                                refine lv_iload hx hb dX7_tries_601 (lv_at hl 0 rfl) ?_
                                refine lv_iload hx hb dX7_tries_603 (lv_at hl 1 rfl) ?_
                                refine lv_iadd hx hb dX7_tries_605 ?_
                                refine lv_goto (tgt := 611) hx hb dX7_tries_606 (by decide) ?_
                                exact J173 ((((rCodes (p0).toNatClampNeg) + x165) + x168) + x118) ls _ _ E (lv_sub hl [0, 1, 2, 3, 4, 5, 6, 7, 8, 9, 10] rfl) hP hD hS
                              · rw [if_neg c170] at E
                                refine lv_iload_n hx hb dX7_tries_595 rfl (lv_at hl 7 rfl) ?_
                                refine lv_bipush (v := (6 : Int32)) hx hb dX7_tries_596 (by decide) ?_
                                refine lv_icmp_ne (tgt := 609) hx hb dX7_tries_598 (by decide) (fun c171 => ?_) (fun c171 => ?_)
                                · rw [if_neg c171] at E
                                  refine lv_iload hx hb dX7_tries_609 (lv_at hl 0 rfl) ?_
                                  exact J173 (((rCodes (p0).toNatClampNeg) + x165) + x168) ls _ _ E (lv_sub hl [0, 1, 2, 3, 4, 5, 6, 7, 8, 9, 10] rfl) hP hD hS
                                · rw [if_pos c171] at E
                                  refine lv_iload hx hb dX7_tries_601 (lv_at hl 0 rfl) ?_
                                  refine lv_iload hx hb dX7_tries_603 (lv_at hl 1 rfl) ?_
                                  refine lv_iadd hx hb dX7_tries_605 ?_
                                  refine lv_goto (tgt := 611) hx hb dX7_tries_606 (by decide) ?_
                                  exact J173 ((((rCodes (p0).toNatClampNeg) + x165) + x168) + x118) ls _ _ E (lv_sub hl [0, 1, 2, 3, 4, 5, 6, 7, 8, 9, 10] rfl) hP hD hS
                            refine lv_if_eq (tgt := 585) hx hb dX7_tries_573 (by decide) (fun c167 => ?_) (fun c167 => ?_)
                            · rw [if_pos c167] at E
                              refine lv_iconst (v := (0 : Int32)) hx hb dX7_tries_585 (by decide) ?_
                              exact J169 (0 : Int32) ls _ _ E (lv_sub hl [0, 1, 2, 3, 4, 5, 6, 7, 8, 9, 10] rfl) hP hD hS
                            · rw [if_neg c167] at E
                              refine lv_aload_n hx hb dX7_tries_576 rfl (lv_at hl 9 rfl) ?_
                              refine va_get (D := D) (ci := 6) (v := .ref o_fields) (C := RX7) (T := TX7) (N := 23) hx hb hts hi_X7 hown hK hP 0 rfl rfl 9 (by decide) lk31 (fun _ h9 => h9) rfl dX7_tries_577 ?_
                              refine lv_iconst (v := (2 : Int32)) hx hb dX7_tries_580 (by decide) ?_
                              refine va_iald hx hb hK hP 8 0 rfl rfl (qw_in0 (x := (2 : Int32)) (n := 13) (by decide) (by decide)) dX7_tries_581 ?_
                              refine lv_goto (tgt := 586) hx hb dX7_tries_582 (by decide) ?_
                              exact J169 (o_fields_f ((2 : Int32)).toNatClampNeg) ls _ _ E (lv_sub hl [0, 1, 2, 3, 4, 5, 6, 7, 8, 9, 10] rfl) hP hD hS
                          refine lv_if_ne (tgt := 562) hx hb dX7_tries_550 (by decide) (fun c163 => ?_) (fun c163 => ?_)
                          · rw [if_neg c163] at E
                            refine lv_iconst (v := (0 : Int32)) hx hb dX7_tries_562 (by decide) ?_
                            exact J166 (0 : Int32) (Or.inl rfl) (qv_w (⟨by decide, by decide⟩ : qv (0) (0) (0 : Int32)) (by decide) (by decide)) ls _ _ E (lv_sub hl [0, 1, 2, 3, 4, 5, 6, 7, 8, 9, 10] rfl) hP hD hS
                          · rw [if_pos c163] at E
                            refine lv_iload_n hx hb dX7_tries_553 rfl (lv_at hl 8 rfl) ?_
                            refine lv_iconst (v := (1 : Int32)) hx hb dX7_tries_554 (by decide) ?_
                            refine lv_icmp_eq (tgt := 562) hx hb dX7_tries_555 (by decide) (fun c164 => ?_) (fun c164 => ?_)
                            · rw [if_pos c164] at E
                              refine lv_iconst (v := (0 : Int32)) hx hb dX7_tries_562 (by decide) ?_
                              exact J166 (0 : Int32) (Or.inl rfl) (qv_w (⟨by decide, by decide⟩ : qv (0) (0) (0 : Int32)) (by decide) (by decide)) ls _ _ E (lv_sub hl [0, 1, 2, 3, 4, 5, 6, 7, 8, 9, 10] rfl) hP hD hS
                            · rw [if_neg c164] at E
                              refine lv_iconst (v := (1 : Int32)) hx hb dX7_tries_558 (by decide) ?_
                              refine lv_goto (tgt := 563) hx hb dX7_tries_559 (by decide) ?_
                              exact J166 (1 : Int32) (Or.inr rfl) (qv_w (⟨by decide, by decide⟩ : qv (1) (1) (1 : Int32)) (by decide) (by decide)) ls _ _ E (lv_sub hl [0, 1, 2, 3, 4, 5, 6, 7, 8, 9, 10] rfl) hP hD hS
                        refine lv_icmp_ne (tgt := 538) hx hb dX7_tries_529 (by decide) (fun c156 => ?_) (fun c156 => ?_)
                        · rw [if_neg c156] at E
                          exact J162 x153 (qv_w (⟨hv_x153.1, hv_x153.2⟩ : qv (0) (2) x153) (by decide) (by decide)) x154 ls _ _ E (lv_sub hl [0, 1, 2, 3, 4, 5, 6, 7, 8, 9, 10] rfl) hP hD hS
                        · rw [if_pos c156] at E
                          refine lv_aload_n hx hb dX7_tries_532 rfl (lv_at hl 9 rfl) ?_
                          refine lv_bipush (v := (15 : Int32)) hx hb dX7_tries_533 (by decide) ?_
                          obtain ⟨y157, y158, q159⟩ : ∃ y157 y158, (f_X7_put x153 x154 (15 : Int32)) = (y157, y158) := ⟨_, _, rfl⟩
                          rw [q159] at E
                          dsimp only at E
                          refine qw_callV (As := [.int (15 : Int32)]) (rest := []) (ws' := [(o, .inr (6, [.int o_thrown, .int (115 : Int32), .ref o_ops, .ref o_sizes, .ref o_patterns, .ref o_leads, .ref o_codes, .ref o_tells, .ref o_numbers, .ref o_fields, .ref o_found, .long o_number, .long o_foundNumber, .ref o_bytes, .ref o_trial, .ref o_fed, .int o_length, .int y157, .int o_given, .int o_at, .int o_pfx, .int o_pfd, .int o_short0])), (o_ops, .inl (cI, 160, .inl rOps)), (o_sizes, .inl (cI, 160, .inl rSizes)), (o_patterns, .inl (cI, 160, .inl rPats)), (o_leads, .inl (cI, 160, .inl rLeads)), (o_codes, .inl (cI, 160, .inl rCodes)), (o_tells, .inl (cI, 160, .inl rTells)), (o_numbers, .inl (cI, 160, .inl rNums)), (o_fields, .inl (cI, 13, .inl o_fields_f)), (o_trial, .inl (cI, 20, .inl y158))]) (st1 := []) ⟨hx, hb, hml, hown, hts⟩ (c_X7_put l D cI tT o o_ops o_sizes o_patterns o_leads o_codes o_tells o_numbers o_fields o_found o_bytes o_trial o_fed o_thrown o_number o_foundNumber o_length x153 o_given o_at o_pfx o_pfd o_short0 x154 (15 : Int32) (qv_w (⟨hv_x153.1, hv_x153.2⟩ : qv (0) (2) x153) (by decide) (by decide) : qv (0) (19) x153) y157 y158 q159) (cwV 1 hts gX7_tries_X7_put rfl rfl rfl (by decide +kernel) ⟨Nat.le_of_ble_eq_true rfl, Nat.le_of_ble_eq_true rfl⟩) hXg hK hP hD hS hA hXs [0, 9] rfl rfl  rfl rfl rfl rfl rfl rfl hl.1 rfl (Nat.le_of_ble_eq_true rfl) rfl ⟨Nat.zero_le _, Nat.zero_le _⟩ dX7_tries_535 (fun H locs hP hD hS => ?_)
                          exact J162 y157 (qv_w (⟨(post_X7_put (⟨hv_x153.1, hv_x153.2⟩ : qv (0) (2) x153) q159 (by decide) (by decide) : qv (1) (3) y157).1, (post_X7_put (⟨hv_x153.1, hv_x153.2⟩ : qv (0) (2) x153) q159 (by decide) (by decide) : qv (1) (3) y157).2⟩ : qv (1) (3) y157) (by decide) (by decide)) y158 ls _ _ E (lv_sub hl [0, 1, 2, 3, 4, 5, 6, 7, 8, 9, 10] rfl) hP hD hS
                      refine lv_if_ne (tgt := 512) hx hb dX7_tries_504 (by decide) (fun c145 => ?_) (fun c145 => ?_)
                      · rw [if_neg c145] at E
                        refine lv_aload_n hx hb dX7_tries_512 rfl (lv_at hl 9 rfl) ?_
                        refine lv_bipush (v := (64 : Int32)) hx hb dX7_tries_513 (by decide) ?_
                        refine lv_iload hx hb dX7_tries_515 (lv_at hl 3 rfl) ?_
                        refine lv_iadd hx hb dX7_tries_517 ?_
                        obtain ⟨y146, y147, q148⟩ : ∃ y146 y147, (f_X7_put x142 x143 ((64 : Int32) + x136)) = (y146, y147) := ⟨_, _, rfl⟩
                        rw [q148] at E
                        dsimp only at E
                        refine qw_callV (As := [.int ((64 : Int32) + x136)]) (rest := []) (ws' := [(o, .inr (6, [.int o_thrown, .int (115 : Int32), .ref o_ops, .ref o_sizes, .ref o_patterns, .ref o_leads, .ref o_codes, .ref o_tells, .ref o_numbers, .ref o_fields, .ref o_found, .long o_number, .long o_foundNumber, .ref o_bytes, .ref o_trial, .ref o_fed, .int o_length, .int y146, .int o_given, .int o_at, .int o_pfx, .int o_pfd, .int o_short0])), (o_ops, .inl (cI, 160, .inl rOps)), (o_sizes, .inl (cI, 160, .inl rSizes)), (o_patterns, .inl (cI, 160, .inl rPats)), (o_leads, .inl (cI, 160, .inl rLeads)), (o_codes, .inl (cI, 160, .inl rCodes)), (o_tells, .inl (cI, 160, .inl rTells)), (o_numbers, .inl (cI, 160, .inl rNums)), (o_fields, .inl (cI, 13, .inl o_fields_f)), (o_trial, .inl (cI, 20, .inl y147))]) (st1 := []) ⟨hx, hb, hml, hown, hts⟩ (c_X7_put l D cI tT o o_ops o_sizes o_patterns o_leads o_codes o_tells o_numbers o_fields o_found o_bytes o_trial o_fed o_thrown o_number o_foundNumber o_length x142 o_given o_at o_pfx o_pfd o_short0 x143 ((64 : Int32) + x136) (qv_w (⟨hv_x142.1, hv_x142.2⟩ : qv (0) (1) x142) (by decide) (by decide) : qv (0) (19) x142) y146 y147 q148) (cwV 1 hts gX7_tries_X7_put rfl rfl rfl (by decide +kernel) ⟨Nat.le_of_ble_eq_true rfl, Nat.le_of_ble_eq_true rfl⟩) hXg hK hP hD hS hA hXs [0, 9] rfl rfl  rfl rfl rfl rfl rfl rfl hl.1 rfl (Nat.le_of_ble_eq_true rfl) rfl ⟨Nat.zero_le _, Nat.zero_le _⟩ dX7_tries_518 (fun H locs hP hD hS => ?_)
                        exact J155 y146 (qv_w (⟨(post_X7_put (⟨hv_x142.1, hv_x142.2⟩ : qv (0) (1) x142) q148 (by decide) (by decide) : qv (1) (2) y146).1, (post_X7_put (⟨hv_x142.1, hv_x142.2⟩ : qv (0) (1) x142) q148 (by decide) (by decide) : qv (1) (2) y146).2⟩ : qv (1) (2) y146) (by decide) (by decide)) y147 ls _ _ E (lv_sub hl [0, 1, 2, 3, 4, 5, 6, 7, 8, 9, 10] rfl) hP hD hS
                      · rw [if_pos c145] at E
                        refine lv_iload hx hb dX7_tries_507 (lv_at hl 3 rfl) ?_
                        refine lv_if_le (tgt := 521) hx hb dX7_tries_509 (by decide) (fun c149 => ?_) (fun c149 => ?_)
                        · rw [if_pos c149] at E
                          exact J155 x142 (qv_w (⟨hv_x142.1, hv_x142.2⟩ : qv (0) (1) x142) (by decide) (by decide)) x143 ls _ _ E (lv_sub hl [0, 1, 2, 3, 4, 5, 6, 7, 8, 9, 10] rfl) hP hD hS
                        · rw [if_neg c149] at E
                          refine lv_aload_n hx hb dX7_tries_512 rfl (lv_at hl 9 rfl) ?_
                          refine lv_bipush (v := (64 : Int32)) hx hb dX7_tries_513 (by decide) ?_
                          refine lv_iload hx hb dX7_tries_515 (lv_at hl 3 rfl) ?_
                          refine lv_iadd hx hb dX7_tries_517 ?_
                          obtain ⟨y150, y151, q152⟩ : ∃ y150 y151, (f_X7_put x142 x143 ((64 : Int32) + x136)) = (y150, y151) := ⟨_, _, rfl⟩
                          rw [q152] at E
                          dsimp only at E
                          refine qw_callV (As := [.int ((64 : Int32) + x136)]) (rest := []) (ws' := [(o, .inr (6, [.int o_thrown, .int (115 : Int32), .ref o_ops, .ref o_sizes, .ref o_patterns, .ref o_leads, .ref o_codes, .ref o_tells, .ref o_numbers, .ref o_fields, .ref o_found, .long o_number, .long o_foundNumber, .ref o_bytes, .ref o_trial, .ref o_fed, .int o_length, .int y150, .int o_given, .int o_at, .int o_pfx, .int o_pfd, .int o_short0])), (o_ops, .inl (cI, 160, .inl rOps)), (o_sizes, .inl (cI, 160, .inl rSizes)), (o_patterns, .inl (cI, 160, .inl rPats)), (o_leads, .inl (cI, 160, .inl rLeads)), (o_codes, .inl (cI, 160, .inl rCodes)), (o_tells, .inl (cI, 160, .inl rTells)), (o_numbers, .inl (cI, 160, .inl rNums)), (o_fields, .inl (cI, 13, .inl o_fields_f)), (o_trial, .inl (cI, 20, .inl y151))]) (st1 := []) ⟨hx, hb, hml, hown, hts⟩ (c_X7_put l D cI tT o o_ops o_sizes o_patterns o_leads o_codes o_tells o_numbers o_fields o_found o_bytes o_trial o_fed o_thrown o_number o_foundNumber o_length x142 o_given o_at o_pfx o_pfd o_short0 x143 ((64 : Int32) + x136) (qv_w (⟨hv_x142.1, hv_x142.2⟩ : qv (0) (1) x142) (by decide) (by decide) : qv (0) (19) x142) y150 y151 q152) (cwV 1 hts gX7_tries_X7_put rfl rfl rfl (by decide +kernel) ⟨Nat.le_of_ble_eq_true rfl, Nat.le_of_ble_eq_true rfl⟩) hXg hK hP hD hS hA hXs [0, 9] rfl rfl  rfl rfl rfl rfl rfl rfl hl.1 rfl (Nat.le_of_ble_eq_true rfl) rfl ⟨Nat.zero_le _, Nat.zero_le _⟩ dX7_tries_518 (fun H locs hP hD hS => ?_)
                          exact J155 y150 (qv_w (⟨(post_X7_put (⟨hv_x142.1, hv_x142.2⟩ : qv (0) (1) x142) q152 (by decide) (by decide) : qv (1) (2) y150).1, (post_X7_put (⟨hv_x142.1, hv_x142.2⟩ : qv (0) (1) x142) q152 (by decide) (by decide) : qv (1) (2) y150).2⟩ : qv (1) (2) y150) (by decide) (by decide)) y151 ls _ _ E (lv_sub hl [0, 1, 2, 3, 4, 5, 6, 7, 8, 9, 10] rfl) hP hD hS
                    refine lv_icmp_ne (tgt := 502) hx hb dX7_tries_492 (by decide) (fun c138 => ?_) (fun c138 => ?_)
                    · rw [if_neg c138] at E
                      exact J144 (0 : Int32) (qv_w (⟨by decide, by decide⟩ : qv (0) (0) (0 : Int32)) (by decide) (by decide)) o_trial_f ls _ _ E (lv_sub hl [0, 1, 2, 3, 4, 5, 6, 7, 8, 9, 10] rfl) hP hD hS
                    · rw [if_pos c138] at E
                      refine lv_aload_n hx hb dX7_tries_495 rfl (lv_at hl 9 rfl) ?_
                      refine lv_sipush (v := (243 : Int32)) hx hb dX7_tries_496 (by decide) ?_
                      obtain ⟨y139, y140, q141⟩ : ∃ y139 y140, (f_X7_put (0 : Int32) o_trial_f (243 : Int32)) = (y139, y140) := ⟨_, _, rfl⟩
                      rw [q141] at E
                      dsimp only at E
                      refine qw_callV (As := [.int (243 : Int32)]) (rest := []) (ws' := [(o, .inr (6, [.int o_thrown, .int (115 : Int32), .ref o_ops, .ref o_sizes, .ref o_patterns, .ref o_leads, .ref o_codes, .ref o_tells, .ref o_numbers, .ref o_fields, .ref o_found, .long o_number, .long o_foundNumber, .ref o_bytes, .ref o_trial, .ref o_fed, .int o_length, .int y139, .int o_given, .int o_at, .int o_pfx, .int o_pfd, .int o_short0])), (o_ops, .inl (cI, 160, .inl rOps)), (o_sizes, .inl (cI, 160, .inl rSizes)), (o_patterns, .inl (cI, 160, .inl rPats)), (o_leads, .inl (cI, 160, .inl rLeads)), (o_codes, .inl (cI, 160, .inl rCodes)), (o_tells, .inl (cI, 160, .inl rTells)), (o_numbers, .inl (cI, 160, .inl rNums)), (o_fields, .inl (cI, 13, .inl o_fields_f)), (o_trial, .inl (cI, 20, .inl y140))]) (st1 := []) ⟨hx, hb, hml, hown, hts⟩ (c_X7_put l D cI tT o o_ops o_sizes o_patterns o_leads o_codes o_tells o_numbers o_fields o_found o_bytes o_trial o_fed o_thrown o_number o_foundNumber o_length (0 : Int32) o_given o_at o_pfx o_pfd o_short0 o_trial_f (243 : Int32) (qv_w (⟨by decide, by decide⟩ : qv (0) (0) (0 : Int32)) (by decide) (by decide) : qv (0) (19) (0 : Int32)) y139 y140 q141) (cwV 1 hts gX7_tries_X7_put rfl rfl rfl (by decide +kernel) ⟨Nat.le_of_ble_eq_true rfl, Nat.le_of_ble_eq_true rfl⟩) hXg hK hP hD hS hA hXs [0, 9] rfl rfl  rfl rfl rfl rfl rfl rfl hl.1 rfl (Nat.le_of_ble_eq_true rfl) rfl ⟨Nat.zero_le _, Nat.zero_le _⟩ dX7_tries_499 (fun H locs hP hD hS => ?_)
                      exact J144 y139 (qv_w (⟨(post_X7_put (⟨by decide, by decide⟩ : qv (0) (0) (0 : Int32)) q141 (by decide) (by decide) : qv (1) (1) y139).1, (post_X7_put (⟨by decide, by decide⟩ : qv (0) (0) (0 : Int32)) q141 (by decide) (by decide) : qv (1) (1) y139).2⟩ : qv (1) (1) y139) (by decide) (by decide)) y140 ls _ _ E (lv_sub hl [0, 1, 2, 3, 4, 5, 6, 7, 8, 9, 10] rfl) hP hD hS
                  refine lv_if_eq (tgt := 478) hx hb dX7_tries_457 (by decide) (fun c134 => ?_) (fun c134 => ?_)
                  · rw [if_pos c134] at E
                    exact J137 x132 ls _ _ E (lv_sub hl [0, 1, 2, 3, 4, 5, 6, 7, 8, 9, 10] rfl) hP hD hS
                  · rw [if_neg c134] at E
                    refine lv_aload_n hx hb dX7_tries_460 rfl (lv_at hl 9 rfl) ?_
                    refine va_get (D := D) (ci := 6) (v := .ref o_fields) (C := RX7) (T := TX7) (N := 23) hx hb hts hi_X7 hown hK hP 0 rfl rfl 9 (by decide) lk31 (fun _ h9 => h9) rfl dX7_tries_461 ?_
                    refine lv_bipush (v := (10 : Int32)) hx hb dX7_tries_464 (by decide) ?_
                    refine va_iald hx hb hK hP 8 0 rfl rfl (qw_in0 (x := (10 : Int32)) (n := 13) (by decide) (by decide)) dX7_tries_466 ?_
                    refine lv_bipush (v := (7 : Int32)) hx hb dX7_tries_467 (by decide) ?_
                    refine lv_icmp_le (tgt := 478) hx hb dX7_tries_469 (by decide) (fun c135 => ?_) (fun c135 => ?_)
                    · rw [if_pos c135] at E
                      exact J137 x132 ls _ _ E (lv_sub hl [0, 1, 2, 3, 4, 5, 6, 7, 8, 9, 10] rfl) hP hD hS
                    · rw [if_neg c135] at E
                      refine lv_iload hx hb dX7_tries_472 (lv_at hl 3 rfl) ?_
                      refine lv_iconst (v := (2 : Int32)) hx hb dX7_tries_474 (by decide) ?_
                      refine lv_ior hx hb dX7_tries_475 ?_
                      refine lv_istore (lv' := [(7, .int (x132 ||| (2 : Int32))), (10, .int x117), (9, .int x118), (8, .int x119), (6, .int x121), (5, .int x122), (4, .int x123), (3, .int (rPats (p0).toNatClampNeg)), (2, .int (o_fields_f ((1 : Int32)).toNatClampNeg)), (0, .ref o), (1, .int p0)]) hx hb dX7_tries_476 hl (by decide) rfl (fun ls hl => ?_)
                      exact J137 (x132 ||| (2 : Int32)) ls _ _ E (lv_sub hl [1, 2, 3, 0, 4, 5, 6, 7, 8, 9, 10] rfl) hP hD hS
                refine lv_if_eq (tgt := 455) hx hb dX7_tries_422 (by decide) (fun c129 => ?_) (fun c129 => ?_)
                · rw [if_pos c129] at E
                  exact J133 x120 ls _ _ E (lv_sub hl [0, 1, 2, 3, 4, 5, 6, 7, 8, 9, 10] rfl) hP hD hS
                · rw [if_neg c129] at E
                  refine lv_aload_n hx hb dX7_tries_425 rfl (lv_at hl 9 rfl) ?_
                  refine va_get (D := D) (ci := 6) (v := .ref o_fields) (C := RX7) (T := TX7) (N := 23) hx hb hts hi_X7 hown hK hP 0 rfl rfl 9 (by decide) lk31 (fun _ h9 => h9) rfl dX7_tries_426 ?_
                  refine lv_bipush (v := (9 : Int32)) hx hb dX7_tries_429 (by decide) ?_
                  refine va_iald hx hb hK hP 8 0 rfl rfl (qw_in0 (x := (9 : Int32)) (n := 13) (by decide) (by decide)) dX7_tries_431 ?_
                  refine lv_bipush (v := (7 : Int32)) hx hb dX7_tries_432 (by decide) ?_
                  refine lv_icmp_le (tgt := 455) hx hb dX7_tries_434 (by decide) (fun c130 => ?_) (fun c130 => ?_)
                  · rw [if_pos c130] at E
                    exact J133 x120 ls _ _ E (lv_sub hl [0, 1, 2, 3, 4, 5, 6, 7, 8, 9, 10] rfl) hP hD hS
                  · rw [if_neg c130] at E
                    refine lv_aload_n hx hb dX7_tries_437 rfl (lv_at hl 9 rfl) ?_
                    refine va_get (D := D) (ci := 6) (v := .ref o_fields) (C := RX7) (T := TX7) (N := 23) hx hb hts hi_X7 hown hK hP 0 rfl rfl 9 (by decide) lk31 (fun _ h9 => h9) rfl dX7_tries_438 ?_
                    refine lv_bipush (v := (9 : Int32)) hx hb dX7_tries_441 (by decide) ?_
                    refine va_iald hx hb hK hP 8 0 rfl rfl (qw_in0 (x := (9 : Int32)) (n := 13) (by decide) (by decide)) dX7_tries_443 ?_
                    refine lv_bipush (v := (16 : Int32)) hx hb dX7_tries_444 (by decide) ?_
                    refine lv_icmp_ge (tgt := 455) hx hb dX7_tries_446 (by decide) (fun c131 => ?_) (fun c131 => ?_)
                    · rw [if_pos c131] at E
                      exact J133 x120 ls _ _ E (lv_sub hl [0, 1, 2, 3, 4, 5, 6, 7, 8, 9, 10] rfl) hP hD hS
                    · rw [if_neg c131] at E
                      refine lv_iload hx hb dX7_tries_449 (lv_at hl 3 rfl) ?_
                      refine lv_iconst (v := (1 : Int32)) hx hb dX7_tries_451 (by decide) ?_
                      refine lv_ior hx hb dX7_tries_452 ?_
                      refine lv_istore (lv' := [(7, .int (x120 ||| (1 : Int32))), (10, .int x117), (9, .int x118), (8, .int x119), (6, .int x121), (5, .int x122), (4, .int x123), (3, .int (rPats (p0).toNatClampNeg)), (2, .int (o_fields_f ((1 : Int32)).toNatClampNeg)), (0, .ref o), (1, .int p0)]) hx hb dX7_tries_453 hl (by decide) rfl (fun ls hl => ?_)
                      exact J133 (x120 ||| (1 : Int32)) ls _ _ E (lv_sub hl [1, 2, 3, 0, 4, 5, 6, 7, 8, 9, 10] rfl) hP hD hS
              refine lv_if_eq (tgt := 420) hx hb dX7_tries_408 (by decide) (fun c126 => ?_) (fun c126 => ?_)
              · rw [if_pos c126] at E
                exact J128  ls _ _ E (lv_sub hl [0, 1, 2, 3, 4, 5, 6, 7, 8, 9, 10] rfl) hP hD hS
              · rw [if_neg c126] at E
                refine lv_aload_n hx hb dX7_tries_411 rfl (lv_at hl 9 rfl) ?_
                refine qw_callV (As := []) (rest := []) (ws' := [(o, .inr (6, [.int o_thrown, .int (115 : Int32), .ref o_ops, .ref o_sizes, .ref o_patterns, .ref o_leads, .ref o_codes, .ref o_tells, .ref o_numbers, .ref o_fields, .ref o_found, .long o_number, .long o_foundNumber, .ref o_bytes, .ref o_trial, .ref o_fed, .int o_length, .int o_tried, .int o_given, .int o_at, .int o_pfx, .int o_pfd, .int o_short0])), (o_ops, .inl (cI, 160, .inl rOps)), (o_sizes, .inl (cI, 160, .inl rSizes)), (o_patterns, .inl (cI, 160, .inl rPats)), (o_leads, .inl (cI, 160, .inl rLeads)), (o_codes, .inl (cI, 160, .inl rCodes)), (o_tells, .inl (cI, 160, .inl rTells)), (o_numbers, .inl (cI, 160, .inl rNums)), (o_fields, .inl (cI, 13, .inl o_fields_f)), (o_trial, .inl (cI, 20, .inl o_trial_f))]) (st1 := [.int (f_X7_isMemory o_fields_f)]) ⟨hx, hb, hml, hown, hts⟩ (c_X7_isMemory l D cI tT o o_ops o_sizes o_patterns o_leads o_codes o_tells o_numbers o_fields o_found o_bytes o_trial o_fed o_thrown o_number o_foundNumber o_length o_tried o_given o_at o_pfx o_pfd o_short0 o_fields_f (f_X7_isMemory o_fields_f) rfl) (cwV 0 hts gX7_tries_X7_isMemory rfl rfl rfl (by decide +kernel) ⟨Nat.le_of_ble_eq_true rfl, Nat.le_of_ble_eq_true rfl⟩) hXg hK hP hD hS hA hXs [0, 8] rfl rfl  rfl rfl rfl rfl rfl rfl hl.1 rfl (Nat.le_of_ble_eq_true rfl) rfl ⟨Nat.zero_le _, Nat.zero_le _⟩ dX7_tries_412 (fun H locs hP hD hS => ?_)
                refine lv_if_ne (tgt := 420) hx hb dX7_tries_415 (by decide) (fun c127 => ?_) (fun c127 => ?_)
                · rw [if_neg c127] at E
                  exact J128  ls _ _ E (lv_sub hl [0, 1, 2, 3, 4, 5, 6, 7, 8, 9, 10] rfl) hP hD hS
                · rw [if_pos c127] at E
                  refine lv_iconst (v := (0 : Int32)) hx hb dX7_tries_418 (by decide) ?_
                  cases E
                  rw [hZ]
                  exact qw_zret hx hb hr hlk (Or.inl rfl) hP hD hS dX7_tries_419
          refine lv_if_eq (tgt := 401) hx hb dX7_tries_199 (by decide) (fun c22 => ?_) (fun c22 => ?_)
          · rw [if_pos c22] at E
            exact J124 (0 : Int32) (qv_w (⟨by decide, by decide⟩ : qv (0) (0) (0 : Int32)) (by decide) (by decide)) (0 : Int32) x20 x17 x14 hb_x14 (qv_w (⟨hv_x14.1, hv_x14.2⟩ : qv (0) (1) x14) (by decide) (by decide)) (0 : Int32) (Or.inl rfl) (qv_w (⟨by decide, by decide⟩ : qv (0) (0) (0 : Int32)) (by decide) (by decide)) x7 ls _ _ E (lv_sub hl [0, 1, 2, 3, 4, 5, 6, 7, 8, 9, 10] rfl) hP hD hS
          · rw [if_neg c22] at E
            refine lv_aload_n hx hb dX7_tries_202 rfl (lv_at hl 9 rfl) ?_
            refine va_get (D := D) (ci := 6) (v := .ref o_fields) (C := RX7) (T := TX7) (N := 23) hx hb hts hi_X7 hown hK hP 0 rfl rfl 9 (by decide) lk31 (fun _ h9 => h9) rfl dX7_tries_203 ?_
            refine lv_iconst (v := (3 : Int32)) hx hb dX7_tries_206 (by decide) ?_
            refine lv_iconst (v := (2 : Int32)) hx hb dX7_tries_207 (by decide) ?_
            refine lv_iload hx hb dX7_tries_208 (lv_at hl 0 rfl) ?_
            refine lv_imul hx hb dX7_tries_210 ?_
            refine qw_topi (v := (0 : Int32)) (by decide) ?_
            refine lv_iadd hx hb dX7_tries_211 ?_
            refine qw_topi (v := (3 : Int32)) (by decide) ?_
            refine va_iald hx hb hK hP 8 0 rfl rfl (qw_in0 (x := (3 : Int32)) (n := 13) (by decide) (by decide)) dX7_tries_212 ?_
            refine lv_istore (lv' := [(11, .int (o_fields_f ((3 : Int32)).toNatClampNeg)), (10, .int (0 : Int32)), (9, .int (0 : Int32)), (8, .int x20), (7, .int x17), (6, .int x14), (5, .int (0 : Int32)), (4, .int x7), (3, .int (rPats (p0).toNatClampNeg)), (2, .int (o_fields_f ((1 : Int32)).toNatClampNeg)), (0, .ref o), (1, .int p0)]) hx hb dX7_tries_213 hl (by decide) rfl (fun ls hl => ?_)
            refine lv_aload_n hx hb dX7_tries_215 rfl (lv_at hl 10 rfl) ?_
            refine va_get (D := D) (ci := 6) (v := .ref o_fields) (C := RX7) (T := TX7) (N := 23) hx hb hts hi_X7 hown hK hP 0 rfl rfl 9 (by decide) lk31 (fun _ h9 => h9) rfl dX7_tries_216 ?_
            refine lv_iconst (v := (4 : Int32)) hx hb dX7_tries_219 (by decide) ?_
            refine lv_iconst (v := (2 : Int32)) hx hb dX7_tries_220 (by decide) ?_
            refine lv_iload hx hb dX7_tries_221 (lv_at hl 1 rfl) ?_
            refine lv_imul hx hb dX7_tries_223 ?_
            refine qw_topi (v := (0 : Int32)) (by decide) ?_
            refine lv_iadd hx hb dX7_tries_224 ?_
            refine qw_topi (v := (4 : Int32)) (by decide) ?_
            refine va_iald hx hb hK hP 8 0 rfl rfl (qw_in0 (x := (4 : Int32)) (n := 13) (by decide) (by decide)) dX7_tries_225 ?_
            refine lv_istore (lv' := [(12, .int (o_fields_f ((4 : Int32)).toNatClampNeg)), (11, .int (o_fields_f ((3 : Int32)).toNatClampNeg)), (10, .int (0 : Int32)), (9, .int (0 : Int32)), (8, .int x20), (7, .int x17), (6, .int x14), (5, .int (0 : Int32)), (4, .int x7), (3, .int (rPats (p0).toNatClampNeg)), (2, .int (o_fields_f ((1 : Int32)).toNatClampNeg)), (0, .ref o), (1, .int p0)]) hx hb dX7_tries_226 hl (by decide) rfl (fun ls hl => ?_)
            refine lv_aload_n hx hb dX7_tries_228 rfl (lv_at hl 11 rfl) ?_
            refine lv_iload_n hx hb dX7_tries_229 rfl (lv_at hl 12 rfl) ?_
            refine lv_iload hx hb dX7_tries_230 (lv_at hl 2 rfl) ?_
            refine lv_iload hx hb dX7_tries_232 (lv_at hl 1 rfl) ?_
            refine lv_iload hx hb dX7_tries_234 (lv_at hl 0 rfl) ?_
            refine qw_callV (As := [.int p0, .int (0 : Int32), .int (o_fields_f ((3 : Int32)).toNatClampNeg), .int (o_fields_f ((4 : Int32)).toNatClampNeg)]) (rest := []) (ws' := [(o, .inr (6, [.int o_thrown, .int (115 : Int32), .ref o_ops, .ref o_sizes, .ref o_patterns, .ref o_leads, .ref o_codes, .ref o_tells, .ref o_numbers, .ref o_fields, .ref o_found, .long o_number, .long o_foundNumber, .ref o_bytes, .ref o_trial, .ref o_fed, .int o_length, .int o_tried, .int o_given, .int o_at, .int o_pfx, .int o_pfd, .int o_short0])), (o_ops, .inl (cI, 160, .inl rOps)), (o_sizes, .inl (cI, 160, .inl rSizes)), (o_patterns, .inl (cI, 160, .inl rPats)), (o_leads, .inl (cI, 160, .inl rLeads)), (o_codes, .inl (cI, 160, .inl rCodes)), (o_tells, .inl (cI, 160, .inl rTells)), (o_numbers, .inl (cI, 160, .inl rNums)), (o_fields, .inl (cI, 13, .inl o_fields_f)), (o_trial, .inl (cI, 20, .inl o_trial_f))]) (st1 := [.int (f_X7_suits o_number o_fields_f p0 (0 : Int32) (o_fields_f ((3 : Int32)).toNatClampNeg) (o_fields_f ((4 : Int32)).toNatClampNeg))]) ⟨hx, hb, hml, hown, hts⟩ (c_X7_suits l D cI tT o o_ops o_sizes o_patterns o_leads o_codes o_tells o_numbers o_fields o_found o_bytes o_trial o_fed o_thrown o_number o_foundNumber o_length o_tried o_given o_at o_pfx o_pfd o_short0 o_fields_f p0 (0 : Int32) (o_fields_f ((3 : Int32)).toNatClampNeg) (o_fields_f ((4 : Int32)).toNatClampNeg) (qv_w (⟨hv_p0.1, hv_p0.2⟩ : qv (0) (114) p0) (by decide) (by decide) : qv (0) (114) p0) (f_X7_suits o_number o_fields_f p0 (0 : Int32) (o_fields_f ((3 : Int32)).toNatClampNeg) (o_fields_f ((4 : Int32)).toNatClampNeg)) rfl) (cwV 4 hts gX7_tries_X7_suits rfl rfl rfl (by decide +kernel) ⟨Nat.le_of_ble_eq_true rfl, Nat.le_of_ble_eq_true rfl⟩) hXg hK hP hD hS hA hXs [0, 3, 7, 8] rfl rfl  rfl rfl rfl rfl rfl rfl hl.1 rfl (Nat.le_of_ble_eq_true rfl) rfl ⟨Nat.zero_le _, Nat.zero_le _⟩ dX7_tries_236 (fun H locs hP hD hS => ?_)
            refine lv_istore (lv' := [(4, .int (f_X7_suits o_number o_fields_f p0 (0 : Int32) (o_fields_f ((3 : Int32)).toNatClampNeg) (o_fields_f ((4 : Int32)).toNatClampNeg))), (12, .int (o_fields_f ((4 : Int32)).toNatClampNeg)), (11, .int (o_fields_f ((3 : Int32)).toNatClampNeg)), (10, .int (0 : Int32)), (9, .int (0 : Int32)), (8, .int x20), (7, .int x17), (6, .int x14), (5, .int (0 : Int32)), (3, .int (rPats (p0).toNatClampNeg)), (2, .int (o_fields_f ((1 : Int32)).toNatClampNeg)), (0, .ref o), (1, .int p0)]) hx hb dX7_tries_239 hl (by decide) rfl (fun ls hl => ?_)
            refine lv_iload_n hx hb dX7_tries_241 rfl (lv_at hl 9 rfl) ?_
            refine lv_iload hx hb dX7_tries_242 (lv_at hl 3 rfl) ?_
            refine qw_callS (As := [.int (rPats (p0).toNatClampNeg), .int (0 : Int32)]) (rest := []) (ws' := [(o, .inr (6, [.int o_thrown, .int (115 : Int32), .ref o_ops, .ref o_sizes, .ref o_patterns, .ref o_leads, .ref o_codes, .ref o_tells, .ref o_numbers, .ref o_fields, .ref o_found, .long o_number, .long o_foundNumber, .ref o_bytes, .ref o_trial, .ref o_fed, .int o_length, .int o_tried, .int o_given, .int o_at, .int o_pfx, .int o_pfd, .int o_short0])), (o_ops, .inl (cI, 160, .inl rOps)), (o_sizes, .inl (cI, 160, .inl rSizes)), (o_patterns, .inl (cI, 160, .inl rPats)), (o_leads, .inl (cI, 160, .inl rLeads)), (o_codes, .inl (cI, 160, .inl rCodes)), (o_tells, .inl (cI, 160, .inl rTells)), (o_numbers, .inl (cI, 160, .inl rNums)), (o_fields, .inl (cI, 13, .inl o_fields_f)), (o_trial, .inl (cI, 20, .inl o_trial_f))]) (st1 := [.int (f_X7_place (rPats (p0).toNatClampNeg) (0 : Int32))]) ⟨hx, hb, hml, hown, hts⟩ (c_X7_place l D cI tT (rPats (p0).toNatClampNeg) (0 : Int32) (f_X7_place (rPats (p0).toNatClampNeg) (0 : Int32)) rfl) (va_cwS 2 hts gX7_tries_X7_place rfl rfl rfl (by decide +kernel) ⟨Nat.le_of_ble_eq_true rfl, Nat.le_of_ble_eq_true rfl⟩) hXg hK hP hD hS hA hXs [] rfl rfl  rfl rfl rfl hl.1 rfl (Nat.le_of_ble_eq_true rfl) rfl ⟨Nat.zero_le _, Nat.zero_le _⟩ dX7_tries_244 (fun H locs hP hD hS => ?_)
            refine lv_istore (lv' := [(13, .int (f_X7_place (rPats (p0).toNatClampNeg) (0 : Int32))), (4, .int (f_X7_suits o_number o_fields_f p0 (0 : Int32) (o_fields_f ((3 : Int32)).toNatClampNeg) (o_fields_f ((4 : Int32)).toNatClampNeg))), (12, .int (o_fields_f ((4 : Int32)).toNatClampNeg)), (11, .int (o_fields_f ((3 : Int32)).toNatClampNeg)), (10, .int (0 : Int32)), (9, .int (0 : Int32)), (8, .int x20), (7, .int x17), (6, .int x14), (5, .int (0 : Int32)), (3, .int (rPats (p0).toNatClampNeg)), (2, .int (o_fields_f ((1 : Int32)).toNatClampNeg)), (0, .ref o), (1, .int p0)]) hx hb dX7_tries_247 hl (by decide) rfl (fun ls hl => ?_)
            refine lv_iload hx hb dX7_tries_249 (lv_at hl 9 rfl) ?_
            refine lv_if_ne (tgt := 260) hx hb dX7_tries_251 (by decide) (fun c9 => absurd c9 (by decide)) (fun _ => ?_)
            refine lv_iload hx hb dX7_tries_254 (lv_at hl 3 rfl) ?_
            refine lv_iconst (v := (2 : Int32)) hx hb dX7_tries_256 (by decide) ?_
            have J25 : ∀ (x24 : Int32) (hb_x24 : x24 = 0 ∨ x24 = 1) (hv_x24 : qv (0) (1) x24) (ls : Array Slot) (H : Heap) (locs : List Loc), f_X7_tries_J25 o_number o_tried o_fields_f o_trial_f p0 x14 x17 x20 x24 = (r_o, o_tried_o, o_trial_f_o) → lv_has ls 15 [(13, .int (f_X7_place (rPats (p0).toNatClampNeg) (0 : Int32))), (4, .int (f_X7_suits o_number o_fields_f p0 (0 : Int32) (o_fields_f ((3 : Int32)).toNatClampNeg) (o_fields_f ((4 : Int32)).toNatClampNeg))), (12, .int (o_fields_f ((4 : Int32)).toNatClampNeg)), (11, .int (o_fields_f ((3 : Int32)).toNatClampNeg)), (10, .int (0 : Int32)), (9, .int (0 : Int32)), (8, .int x20), (7, .int x17), (6, .int x14), (5, .int (0 : Int32)), (3, .int (rPats (p0).toNatClampNeg)), (2, .int (o_fields_f ((1 : Int32)).toNatClampNeg)), (0, .ref o), (1, .int p0)] → va_P D vwCl [(o, .inr (6, [.int o_thrown, .int (115 : Int32), .ref o_ops, .ref o_sizes, .ref o_patterns, .ref o_leads, .ref o_codes, .ref o_tells, .ref o_numbers, .ref o_fields, .ref o_found, .long o_number, .long o_foundNumber, .ref o_bytes, .ref o_trial, .ref o_fed, .int o_length, .int o_tried, .int o_given, .int o_at, .int o_pfx, .int o_pfd, .int o_short0])), (o_ops, .inl (cI, 160, .inl rOps)), (o_sizes, .inl (cI, 160, .inl rSizes)), (o_patterns, .inl (cI, 160, .inl rPats)), (o_leads, .inl (cI, 160, .inl rLeads)), (o_codes, .inl (cI, 160, .inl rCodes)), (o_tells, .inl (cI, 160, .inl rTells)), (o_numbers, .inl (cI, 160, .inl rNums)), (o_fields, .inl (cI, 13, .inl o_fields_f)), (o_trial, .inl (cI, 20, .inl o_trial_f))] H → va_D A [(o, .inr (6, [.int o_thrown, .int (115 : Int32), .ref o_ops, .ref o_sizes, .ref o_patterns, .ref o_leads, .ref o_codes, .ref o_tells, .ref o_numbers, .ref o_fields, .ref o_found, .long o_number, .long o_foundNumber, .ref o_bytes, .ref o_trial, .ref o_fed, .int o_length, .int o_tried, .int o_given, .int o_at, .int o_pfx, .int o_pfd, .int o_short0])), (o_ops, .inl (cI, 160, .inl rOps)), (o_sizes, .inl (cI, 160, .inl rSizes)), (o_patterns, .inl (cI, 160, .inl rPats)), (o_leads, .inl (cI, 160, .inl rLeads)), (o_codes, .inl (cI, 160, .inl rCodes)), (o_tells, .inl (cI, 160, .inl rTells)), (o_numbers, .inl (cI, 160, .inl rNums)), (o_fields, .inl (cI, 13, .inl o_fields_f)), (o_trial, .inl (cI, 20, .inl o_trial_f))] → va_S A s.heap H locs → W p l e (qr 3 73) s m args below meth c H locs 0 0 Z (F0 m 265 ls [.int x24]) := by
              intro x24 hb_x24 hv_x24 ls H locs E hl hP hD hS
              rw [f_X7_tries_J25] at E
              refine lv_istore (lv' := [(5, .int x24), (13, .int (f_X7_place (rPats (p0).toNatClampNeg) (0 : Int32))), (4, .int (f_X7_suits o_number o_fields_f p0 (0 : Int32) (o_fields_f ((3 : Int32)).toNatClampNeg) (o_fields_f ((4 : Int32)).toNatClampNeg))), (12, .int (o_fields_f ((4 : Int32)).toNatClampNeg)), (11, .int (o_fields_f ((3 : Int32)).toNatClampNeg)), (10, .int (0 : Int32)), (9, .int (0 : Int32)), (8, .int x20), (7, .int x17), (6, .int x14), (3, .int (rPats (p0).toNatClampNeg)), (2, .int (o_fields_f ((1 : Int32)).toNatClampNeg)), (0, .ref o), (1, .int p0)]) hx hb dX7_tries_265 hl (by decide) rfl (fun ls hl => ?_)
              refine lv_iload hx hb dX7_tries_267 (lv_at hl 4 rfl) ?_
              refine lv_iconst (v := (1 : Int32)) hx hb dX7_tries_269 (by decide) ?_
              have J31 : ∀ (x30 : Int32) (hb_x30 : x30 = 0 ∨ x30 = 1) (hv_x30 : qv (0) (1) x30) (ls : Array Slot) (H : Heap) (locs : List Loc), f_X7_tries_J31 o_number o_tried o_fields_f o_trial_f p0 x14 x17 x20 x24 x30 = (r_o, o_tried_o, o_trial_f_o) → lv_has ls 15 [(5, .int x24), (13, .int (f_X7_place (rPats (p0).toNatClampNeg) (0 : Int32))), (4, .int (f_X7_suits o_number o_fields_f p0 (0 : Int32) (o_fields_f ((3 : Int32)).toNatClampNeg) (o_fields_f ((4 : Int32)).toNatClampNeg))), (12, .int (o_fields_f ((4 : Int32)).toNatClampNeg)), (11, .int (o_fields_f ((3 : Int32)).toNatClampNeg)), (10, .int (0 : Int32)), (9, .int (0 : Int32)), (8, .int x20), (7, .int x17), (6, .int x14), (3, .int (rPats (p0).toNatClampNeg)), (2, .int (o_fields_f ((1 : Int32)).toNatClampNeg)), (0, .ref o), (1, .int p0)] → va_P D vwCl [(o, .inr (6, [.int o_thrown, .int (115 : Int32), .ref o_ops, .ref o_sizes, .ref o_patterns, .ref o_leads, .ref o_codes, .ref o_tells, .ref o_numbers, .ref o_fields, .ref o_found, .long o_number, .long o_foundNumber, .ref o_bytes, .ref o_trial, .ref o_fed, .int o_length, .int o_tried, .int o_given, .int o_at, .int o_pfx, .int o_pfd, .int o_short0])), (o_ops, .inl (cI, 160, .inl rOps)), (o_sizes, .inl (cI, 160, .inl rSizes)), (o_patterns, .inl (cI, 160, .inl rPats)), (o_leads, .inl (cI, 160, .inl rLeads)), (o_codes, .inl (cI, 160, .inl rCodes)), (o_tells, .inl (cI, 160, .inl rTells)), (o_numbers, .inl (cI, 160, .inl rNums)), (o_fields, .inl (cI, 13, .inl o_fields_f)), (o_trial, .inl (cI, 20, .inl o_trial_f))] H → va_D A [(o, .inr (6, [.int o_thrown, .int (115 : Int32), .ref o_ops, .ref o_sizes, .ref o_patterns, .ref o_leads, .ref o_codes, .ref o_tells, .ref o_numbers, .ref o_fields, .ref o_found, .long o_number, .long o_foundNumber, .ref o_bytes, .ref o_trial, .ref o_fed, .int o_length, .int o_tried, .int o_given, .int o_at, .int o_pfx, .int o_pfd, .int o_short0])), (o_ops, .inl (cI, 160, .inl rOps)), (o_sizes, .inl (cI, 160, .inl rSizes)), (o_patterns, .inl (cI, 160, .inl rPats)), (o_leads, .inl (cI, 160, .inl rLeads)), (o_codes, .inl (cI, 160, .inl rCodes)), (o_tells, .inl (cI, 160, .inl rTells)), (o_numbers, .inl (cI, 160, .inl rNums)), (o_fields, .inl (cI, 13, .inl o_fields_f)), (o_trial, .inl (cI, 20, .inl o_trial_f))] → va_S A s.heap H locs → W p l e (qr 3 73) s m args below meth c H locs 0 0 Z (F0 m 296 ls [.int x30]) := by
                intro x30 hb_x30 hv_x30 ls H locs E hl hP hD hS
                rw [f_X7_tries_J31] at E
                refine lv_istore (lv' := [(14, .int x30), (5, .int x24), (13, .int (f_X7_place (rPats (p0).toNatClampNeg) (0 : Int32))), (4, .int (f_X7_suits o_number o_fields_f p0 (0 : Int32) (o_fields_f ((3 : Int32)).toNatClampNeg) (o_fields_f ((4 : Int32)).toNatClampNeg))), (12, .int (o_fields_f ((4 : Int32)).toNatClampNeg)), (11, .int (o_fields_f ((3 : Int32)).toNatClampNeg)), (10, .int (0 : Int32)), (9, .int (0 : Int32)), (8, .int x20), (7, .int x17), (6, .int x14), (3, .int (rPats (p0).toNatClampNeg)), (2, .int (o_fields_f ((1 : Int32)).toNatClampNeg)), (0, .ref o), (1, .int p0)]) hx hb dX7_tries_296 hl (by decide) rfl (fun ls hl => ?_)
                refine lv_iload hx hb dX7_tries_298 (lv_at hl 0 rfl) ?_
                have J37 : ∀ (x36 : Int32) (hb_x36 : x36 = 0 ∨ x36 = 1) (hv_x36 : qv (0) (1) x36) (ls : Array Slot) (H : Heap) (locs : List Loc), f_X7_tries_J37 o_number o_tried o_fields_f o_trial_f p0 x17 x20 x24 x30 x36 = (r_o, o_tried_o, o_trial_f_o) → lv_has ls 15 [(14, .int x30), (5, .int x24), (13, .int (f_X7_place (rPats (p0).toNatClampNeg) (0 : Int32))), (4, .int (f_X7_suits o_number o_fields_f p0 (0 : Int32) (o_fields_f ((3 : Int32)).toNatClampNeg) (o_fields_f ((4 : Int32)).toNatClampNeg))), (12, .int (o_fields_f ((4 : Int32)).toNatClampNeg)), (11, .int (o_fields_f ((3 : Int32)).toNatClampNeg)), (10, .int (0 : Int32)), (9, .int (0 : Int32)), (8, .int x20), (7, .int x17), (6, .int x36), (3, .int (rPats (p0).toNatClampNeg)), (2, .int (o_fields_f ((1 : Int32)).toNatClampNeg)), (0, .ref o), (1, .int p0)] → va_P D vwCl [(o, .inr (6, [.int o_thrown, .int (115 : Int32), .ref o_ops, .ref o_sizes, .ref o_patterns, .ref o_leads, .ref o_codes, .ref o_tells, .ref o_numbers, .ref o_fields, .ref o_found, .long o_number, .long o_foundNumber, .ref o_bytes, .ref o_trial, .ref o_fed, .int o_length, .int o_tried, .int o_given, .int o_at, .int o_pfx, .int o_pfd, .int o_short0])), (o_ops, .inl (cI, 160, .inl rOps)), (o_sizes, .inl (cI, 160, .inl rSizes)), (o_patterns, .inl (cI, 160, .inl rPats)), (o_leads, .inl (cI, 160, .inl rLeads)), (o_codes, .inl (cI, 160, .inl rCodes)), (o_tells, .inl (cI, 160, .inl rTells)), (o_numbers, .inl (cI, 160, .inl rNums)), (o_fields, .inl (cI, 13, .inl o_fields_f)), (o_trial, .inl (cI, 20, .inl o_trial_f))] H → va_D A [(o, .inr (6, [.int o_thrown, .int (115 : Int32), .ref o_ops, .ref o_sizes, .ref o_patterns, .ref o_leads, .ref o_codes, .ref o_tells, .ref o_numbers, .ref o_fields, .ref o_found, .long o_number, .long o_foundNumber, .ref o_bytes, .ref o_trial, .ref o_fed, .int o_length, .int o_tried, .int o_given, .int o_at, .int o_pfx, .int o_pfd, .int o_short0])), (o_ops, .inl (cI, 160, .inl rOps)), (o_sizes, .inl (cI, 160, .inl rSizes)), (o_patterns, .inl (cI, 160, .inl rPats)), (o_leads, .inl (cI, 160, .inl rLeads)), (o_codes, .inl (cI, 160, .inl rCodes)), (o_tells, .inl (cI, 160, .inl rTells)), (o_numbers, .inl (cI, 160, .inl rNums)), (o_fields, .inl (cI, 13, .inl o_fields_f)), (o_trial, .inl (cI, 20, .inl o_trial_f))] → va_S A s.heap H locs → W p l e (qr 3 73) s m args below meth c H locs 0 0 Z (F0 m 331 ls []) := by
                  intro x36 hb_x36 hv_x36 ls H locs E hl hP hD hS
                  rw [f_X7_tries_J37] at E
                  refine lv_iload hx hb dX7_tries_331 (lv_at hl 0 rfl) ?_
                  have J44 : ∀ (x43 : Int32) (ls : Array Slot) (H : Heap) (locs : List Loc), f_X7_tries_J44 o_number o_tried o_fields_f o_trial_f p0 x20 x24 x30 x36 x43 = (r_o, o_tried_o, o_trial_f_o) → lv_has ls 15 [(14, .int x30), (5, .int x24), (13, .int (f_X7_place (rPats (p0).toNatClampNeg) (0 : Int32))), (4, .int (f_X7_suits o_number o_fields_f p0 (0 : Int32) (o_fields_f ((3 : Int32)).toNatClampNeg) (o_fields_f ((4 : Int32)).toNatClampNeg))), (12, .int (o_fields_f ((4 : Int32)).toNatClampNeg)), (11, .int (o_fields_f ((3 : Int32)).toNatClampNeg)), (10, .int (0 : Int32)), (9, .int (0 : Int32)), (8, .int x20), (7, .int x43), (6, .int x36), (3, .int (rPats (p0).toNatClampNeg)), (2, .int (o_fields_f ((1 : Int32)).toNatClampNeg)), (0, .ref o), (1, .int p0)] → va_P D vwCl [(o, .inr (6, [.int o_thrown, .int (115 : Int32), .ref o_ops, .ref o_sizes, .ref o_patterns, .ref o_leads, .ref o_codes, .ref o_tells, .ref o_numbers, .ref o_fields, .ref o_found, .long o_number, .long o_foundNumber, .ref o_bytes, .ref o_trial, .ref o_fed, .int o_length, .int o_tried, .int o_given, .int o_at, .int o_pfx, .int o_pfd, .int o_short0])), (o_ops, .inl (cI, 160, .inl rOps)), (o_sizes, .inl (cI, 160, .inl rSizes)), (o_patterns, .inl (cI, 160, .inl rPats)), (o_leads, .inl (cI, 160, .inl rLeads)), (o_codes, .inl (cI, 160, .inl rCodes)), (o_tells, .inl (cI, 160, .inl rTells)), (o_numbers, .inl (cI, 160, .inl rNums)), (o_fields, .inl (cI, 13, .inl o_fields_f)), (o_trial, .inl (cI, 20, .inl o_trial_f))] H → va_D A [(o, .inr (6, [.int o_thrown, .int (115 : Int32), .ref o_ops, .ref o_sizes, .ref o_patterns, .ref o_leads, .ref o_codes, .ref o_tells, .ref o_numbers, .ref o_fields, .ref o_found, .long o_number, .long o_foundNumber, .ref o_bytes, .ref o_trial, .ref o_fed, .int o_length, .int o_tried, .int o_given, .int o_at, .int o_pfx, .int o_pfd, .int o_short0])), (o_ops, .inl (cI, 160, .inl rOps)), (o_sizes, .inl (cI, 160, .inl rSizes)), (o_patterns, .inl (cI, 160, .inl rPats)), (o_leads, .inl (cI, 160, .inl rLeads)), (o_codes, .inl (cI, 160, .inl rCodes)), (o_tells, .inl (cI, 160, .inl rTells)), (o_numbers, .inl (cI, 160, .inl rNums)), (o_fields, .inl (cI, 13, .inl o_fields_f)), (o_trial, .inl (cI, 20, .inl o_trial_f))] → va_S A s.heap H locs → W p l e (qr 3 73) s m args below meth c H locs 0 0 Z (F0 m 359 ls []) := by
                    intro x43 ls H locs E hl hP hD hS
                    rw [f_X7_tries_J44] at E
                    refine lv_iload hx hb dX7_tries_359 (lv_at hl 0 rfl) ?_
                    have J48 : ∀ (x47 : Int32) (ls : Array Slot) (H : Heap) (locs : List Loc), f_X7_tries_J48 o_number o_tried o_fields_f o_trial_f p0 x24 x30 x36 x43 x47 = (r_o, o_tried_o, o_trial_f_o) → lv_has ls 15 [(14, .int x30), (5, .int x24), (13, .int (f_X7_place (rPats (p0).toNatClampNeg) (0 : Int32))), (4, .int (f_X7_suits o_number o_fields_f p0 (0 : Int32) (o_fields_f ((3 : Int32)).toNatClampNeg) (o_fields_f ((4 : Int32)).toNatClampNeg))), (12, .int (o_fields_f ((4 : Int32)).toNatClampNeg)), (11, .int (o_fields_f ((3 : Int32)).toNatClampNeg)), (10, .int (0 : Int32)), (9, .int (0 : Int32)), (8, .int x47), (7, .int x43), (6, .int x36), (3, .int (rPats (p0).toNatClampNeg)), (2, .int (o_fields_f ((1 : Int32)).toNatClampNeg)), (0, .ref o), (1, .int p0)] → va_P D vwCl [(o, .inr (6, [.int o_thrown, .int (115 : Int32), .ref o_ops, .ref o_sizes, .ref o_patterns, .ref o_leads, .ref o_codes, .ref o_tells, .ref o_numbers, .ref o_fields, .ref o_found, .long o_number, .long o_foundNumber, .ref o_bytes, .ref o_trial, .ref o_fed, .int o_length, .int o_tried, .int o_given, .int o_at, .int o_pfx, .int o_pfd, .int o_short0])), (o_ops, .inl (cI, 160, .inl rOps)), (o_sizes, .inl (cI, 160, .inl rSizes)), (o_patterns, .inl (cI, 160, .inl rPats)), (o_leads, .inl (cI, 160, .inl rLeads)), (o_codes, .inl (cI, 160, .inl rCodes)), (o_tells, .inl (cI, 160, .inl rTells)), (o_numbers, .inl (cI, 160, .inl rNums)), (o_fields, .inl (cI, 13, .inl o_fields_f)), (o_trial, .inl (cI, 20, .inl o_trial_f))] H → va_D A [(o, .inr (6, [.int o_thrown, .int (115 : Int32), .ref o_ops, .ref o_sizes, .ref o_patterns, .ref o_leads, .ref o_codes, .ref o_tells, .ref o_numbers, .ref o_fields, .ref o_found, .long o_number, .long o_foundNumber, .ref o_bytes, .ref o_trial, .ref o_fed, .int o_length, .int o_tried, .int o_given, .int o_at, .int o_pfx, .int o_pfd, .int o_short0])), (o_ops, .inl (cI, 160, .inl rOps)), (o_sizes, .inl (cI, 160, .inl rSizes)), (o_patterns, .inl (cI, 160, .inl rPats)), (o_leads, .inl (cI, 160, .inl rLeads)), (o_codes, .inl (cI, 160, .inl rCodes)), (o_tells, .inl (cI, 160, .inl rTells)), (o_numbers, .inl (cI, 160, .inl rNums)), (o_fields, .inl (cI, 13, .inl o_fields_f)), (o_trial, .inl (cI, 20, .inl o_trial_f))] → va_S A s.heap H locs → W p l e (qr 3 73) s m args below meth c H locs 0 0 Z (F0 m 377 ls []) := by
                      intro x47 ls H locs E hl hP hD hS
                      rw [f_X7_tries_J48] at E
                      refine lv_iload hx hb dX7_tries_377 (lv_at hl 0 rfl) ?_
                      have J52 : ∀ (x51 : Int32) (ls : Array Slot) (H : Heap) (locs : List Loc), f_X7_tries_J52 o_number o_tried o_fields_f o_trial_f p0 x24 x36 x43 x47 x51 = (r_o, o_tried_o, o_trial_f_o) → lv_has ls 15 [(14, .int x30), (5, .int x24), (13, .int (f_X7_place (rPats (p0).toNatClampNeg) (0 : Int32))), (4, .int (f_X7_suits o_number o_fields_f p0 (0 : Int32) (o_fields_f ((3 : Int32)).toNatClampNeg) (o_fields_f ((4 : Int32)).toNatClampNeg))), (12, .int (o_fields_f ((4 : Int32)).toNatClampNeg)), (11, .int (o_fields_f ((3 : Int32)).toNatClampNeg)), (10, .int (0 : Int32)), (9, .int x51), (8, .int x47), (7, .int x43), (6, .int x36), (3, .int (rPats (p0).toNatClampNeg)), (2, .int (o_fields_f ((1 : Int32)).toNatClampNeg)), (0, .ref o), (1, .int p0)] → va_P D vwCl [(o, .inr (6, [.int o_thrown, .int (115 : Int32), .ref o_ops, .ref o_sizes, .ref o_patterns, .ref o_leads, .ref o_codes, .ref o_tells, .ref o_numbers, .ref o_fields, .ref o_found, .long o_number, .long o_foundNumber, .ref o_bytes, .ref o_trial, .ref o_fed, .int o_length, .int o_tried, .int o_given, .int o_at, .int o_pfx, .int o_pfd, .int o_short0])), (o_ops, .inl (cI, 160, .inl rOps)), (o_sizes, .inl (cI, 160, .inl rSizes)), (o_patterns, .inl (cI, 160, .inl rPats)), (o_leads, .inl (cI, 160, .inl rLeads)), (o_codes, .inl (cI, 160, .inl rCodes)), (o_tells, .inl (cI, 160, .inl rTells)), (o_numbers, .inl (cI, 160, .inl rNums)), (o_fields, .inl (cI, 13, .inl o_fields_f)), (o_trial, .inl (cI, 20, .inl o_trial_f))] H → va_D A [(o, .inr (6, [.int o_thrown, .int (115 : Int32), .ref o_ops, .ref o_sizes, .ref o_patterns, .ref o_leads, .ref o_codes, .ref o_tells, .ref o_numbers, .ref o_fields, .ref o_found, .long o_number, .long o_foundNumber, .ref o_bytes, .ref o_trial, .ref o_fed, .int o_length, .int o_tried, .int o_given, .int o_at, .int o_pfx, .int o_pfd, .int o_short0])), (o_ops, .inl (cI, 160, .inl rOps)), (o_sizes, .inl (cI, 160, .inl rSizes)), (o_patterns, .inl (cI, 160, .inl rPats)), (o_leads, .inl (cI, 160, .inl rLeads)), (o_codes, .inl (cI, 160, .inl rCodes)), (o_tells, .inl (cI, 160, .inl rTells)), (o_numbers, .inl (cI, 160, .inl rNums)), (o_fields, .inl (cI, 13, .inl o_fields_f)), (o_trial, .inl (cI, 20, .inl o_trial_f))] → va_S A s.heap H locs → W p l e (qr 3 73) s m args below meth c H locs 0 0 Z (F0 m 395 ls []) := by
                        intro x51 ls H locs E hl hP hD hS
                        rw [f_X7_tries_J52] at E
                        refine lv_iinc (v := (1 : Int32)) (lv' := [(10, .int (1 : Int32)), (14, .int x30), (5, .int x24), (13, .int (f_X7_place (rPats (p0).toNatClampNeg) (0 : Int32))), (4, .int (f_X7_suits o_number o_fields_f p0 (0 : Int32) (o_fields_f ((3 : Int32)).toNatClampNeg) (o_fields_f ((4 : Int32)).toNatClampNeg))), (12, .int (o_fields_f ((4 : Int32)).toNatClampNeg)), (11, .int (o_fields_f ((3 : Int32)).toNatClampNeg)), (9, .int x51), (8, .int x47), (7, .int x43), (6, .int x36), (3, .int (rPats (p0).toNatClampNeg)), (2, .int (o_fields_f ((1 : Int32)).toNatClampNeg)), (0, .ref o), (1, .int p0)]) hx hb dX7_tries_395 hl (k := 6) rfl (by first | rfl | decide) (by decide) rfl (fun ls hl => ?_)
                        refine lv_goto (tgt := 191) hx hb dX7_tries_398 (by decide) ?_
                        refine lv_iload hx hb dX7_tries_191 (lv_at hl 0 rfl) ?_
                        refine lv_iconst (v := (3 : Int32)) hx hb dX7_tries_193 (by decide) ?_
                        refine lv_icmp_ge (tgt := 401) hx hb dX7_tries_194 (by decide) (fun c9 => absurd c9 (by decide)) (fun _ => ?_)
                        refine lv_iload hx hb dX7_tries_197 (lv_at hl 4 rfl) ?_
                        refine lv_if_eq (tgt := 401) hx hb dX7_tries_199 (by decide) (fun c53 => ?_) (fun c53 => ?_)
                        · rw [if_pos c53] at E
                          exact J124 (1 : Int32) (qv_w (⟨by decide, by decide⟩ : qv (1) (1) (1 : Int32)) (by decide) (by decide)) x51 x47 x43 x36 hb_x36 (qv_w (⟨hv_x36.1, hv_x36.2⟩ : qv (0) (1) x36) (by decide) (by decide)) x24 hb_x24 (qv_w (⟨hv_x24.1, hv_x24.2⟩ : qv (0) (1) x24) (by decide) (by decide)) (f_X7_suits o_number o_fields_f p0 (0 : Int32) (o_fields_f ((3 : Int32)).toNatClampNeg) (o_fields_f ((4 : Int32)).toNatClampNeg)) ls _ _ E (lv_sub hl [0, 7, 8, 9, 10, 2, 4, 11, 12, 13, 14] rfl) hP hD hS
                        · rw [if_neg c53] at E
                          refine lv_aload_n hx hb dX7_tries_202 rfl (lv_at hl 13 rfl) ?_
                          refine va_get (D := D) (ci := 6) (v := .ref o_fields) (C := RX7) (T := TX7) (N := 23) hx hb hts hi_X7 hown hK hP 0 rfl rfl 9 (by decide) lk31 (fun _ h9 => h9) rfl dX7_tries_203 ?_
                          refine lv_iconst (v := (3 : Int32)) hx hb dX7_tries_206 (by decide) ?_
                          refine lv_iconst (v := (2 : Int32)) hx hb dX7_tries_207 (by decide) ?_
                          refine lv_iload hx hb dX7_tries_208 (lv_at hl 0 rfl) ?_
                          refine lv_imul hx hb dX7_tries_210 ?_
                          refine qw_topi (v := (2 : Int32)) (by decide) ?_
                          refine lv_iadd hx hb dX7_tries_211 ?_
                          refine qw_topi (v := (5 : Int32)) (by decide) ?_
                          refine va_iald hx hb hK hP 8 0 rfl rfl (qw_in0 (x := (5 : Int32)) (n := 13) (by decide) (by decide)) dX7_tries_212 ?_
                          refine lv_istore (lv' := [(11, .int (o_fields_f ((5 : Int32)).toNatClampNeg)), (10, .int (1 : Int32)), (14, .int x30), (5, .int x24), (13, .int (f_X7_place (rPats (p0).toNatClampNeg) (0 : Int32))), (4, .int (f_X7_suits o_number o_fields_f p0 (0 : Int32) (o_fields_f ((3 : Int32)).toNatClampNeg) (o_fields_f ((4 : Int32)).toNatClampNeg))), (12, .int (o_fields_f ((4 : Int32)).toNatClampNeg)), (9, .int x51), (8, .int x47), (7, .int x43), (6, .int x36), (3, .int (rPats (p0).toNatClampNeg)), (2, .int (o_fields_f ((1 : Int32)).toNatClampNeg)), (0, .ref o), (1, .int p0)]) hx hb dX7_tries_213 hl (by decide) rfl (fun ls hl => ?_)
                          refine lv_aload_n hx hb dX7_tries_215 rfl (lv_at hl 13 rfl) ?_
                          refine va_get (D := D) (ci := 6) (v := .ref o_fields) (C := RX7) (T := TX7) (N := 23) hx hb hts hi_X7 hown hK hP 0 rfl rfl 9 (by decide) lk31 (fun _ h9 => h9) rfl dX7_tries_216 ?_
                          refine lv_iconst (v := (4 : Int32)) hx hb dX7_tries_219 (by decide) ?_
                          refine lv_iconst (v := (2 : Int32)) hx hb dX7_tries_220 (by decide) ?_
                          refine lv_iload hx hb dX7_tries_221 (lv_at hl 1 rfl) ?_
                          refine lv_imul hx hb dX7_tries_223 ?_
                          refine qw_topi (v := (2 : Int32)) (by decide) ?_
                          refine lv_iadd hx hb dX7_tries_224 ?_
                          refine qw_topi (v := (6 : Int32)) (by decide) ?_
                          refine va_iald hx hb hK hP 8 0 rfl rfl (qw_in0 (x := (6 : Int32)) (n := 13) (by decide) (by decide)) dX7_tries_225 ?_
                          refine lv_istore (lv' := [(12, .int (o_fields_f ((6 : Int32)).toNatClampNeg)), (11, .int (o_fields_f ((5 : Int32)).toNatClampNeg)), (10, .int (1 : Int32)), (14, .int x30), (5, .int x24), (13, .int (f_X7_place (rPats (p0).toNatClampNeg) (0 : Int32))), (4, .int (f_X7_suits o_number o_fields_f p0 (0 : Int32) (o_fields_f ((3 : Int32)).toNatClampNeg) (o_fields_f ((4 : Int32)).toNatClampNeg))), (9, .int x51), (8, .int x47), (7, .int x43), (6, .int x36), (3, .int (rPats (p0).toNatClampNeg)), (2, .int (o_fields_f ((1 : Int32)).toNatClampNeg)), (0, .ref o), (1, .int p0)]) hx hb dX7_tries_226 hl (by decide) rfl (fun ls hl => ?_)
                          refine lv_aload_n hx hb dX7_tries_228 rfl (lv_at hl 13 rfl) ?_
                          refine lv_iload_n hx hb dX7_tries_229 rfl (lv_at hl 14 rfl) ?_
                          refine lv_iload hx hb dX7_tries_230 (lv_at hl 2 rfl) ?_
                          refine lv_iload hx hb dX7_tries_232 (lv_at hl 1 rfl) ?_
                          refine lv_iload hx hb dX7_tries_234 (lv_at hl 0 rfl) ?_
                          refine qw_callV (As := [.int p0, .int (1 : Int32), .int (o_fields_f ((5 : Int32)).toNatClampNeg), .int (o_fields_f ((6 : Int32)).toNatClampNeg)]) (rest := []) (ws' := [(o, .inr (6, [.int o_thrown, .int (115 : Int32), .ref o_ops, .ref o_sizes, .ref o_patterns, .ref o_leads, .ref o_codes, .ref o_tells, .ref o_numbers, .ref o_fields, .ref o_found, .long o_number, .long o_foundNumber, .ref o_bytes, .ref o_trial, .ref o_fed, .int o_length, .int o_tried, .int o_given, .int o_at, .int o_pfx, .int o_pfd, .int o_short0])), (o_ops, .inl (cI, 160, .inl rOps)), (o_sizes, .inl (cI, 160, .inl rSizes)), (o_patterns, .inl (cI, 160, .inl rPats)), (o_leads, .inl (cI, 160, .inl rLeads)), (o_codes, .inl (cI, 160, .inl rCodes)), (o_tells, .inl (cI, 160, .inl rTells)), (o_numbers, .inl (cI, 160, .inl rNums)), (o_fields, .inl (cI, 13, .inl o_fields_f)), (o_trial, .inl (cI, 20, .inl o_trial_f))]) (st1 := [.int (f_X7_suits o_number o_fields_f p0 (1 : Int32) (o_fields_f ((5 : Int32)).toNatClampNeg) (o_fields_f ((6 : Int32)).toNatClampNeg))]) ⟨hx, hb, hml, hown, hts⟩ (c_X7_suits l D cI tT o o_ops o_sizes o_patterns o_leads o_codes o_tells o_numbers o_fields o_found o_bytes o_trial o_fed o_thrown o_number o_foundNumber o_length o_tried o_given o_at o_pfx o_pfd o_short0 o_fields_f p0 (1 : Int32) (o_fields_f ((5 : Int32)).toNatClampNeg) (o_fields_f ((6 : Int32)).toNatClampNeg) (qv_w (⟨hv_p0.1, hv_p0.2⟩ : qv (0) (114) p0) (by decide) (by decide) : qv (0) (114) p0) (f_X7_suits o_number o_fields_f p0 (1 : Int32) (o_fields_f ((5 : Int32)).toNatClampNeg) (o_fields_f ((6 : Int32)).toNatClampNeg)) rfl) (cwV 4 hts gX7_tries_X7_suits rfl rfl rfl (by decide +kernel) ⟨Nat.le_of_ble_eq_true rfl, Nat.le_of_ble_eq_true rfl⟩) hXg hK hP hD hS hA hXs [0, 3, 7, 8] rfl rfl  rfl rfl rfl rfl rfl rfl hl.1 rfl (Nat.le_of_ble_eq_true rfl) rfl ⟨Nat.zero_le _, Nat.zero_le _⟩ dX7_tries_236 (fun H locs hP hD hS => ?_)
                          refine lv_istore (lv' := [(4, .int (f_X7_suits o_number o_fields_f p0 (1 : Int32) (o_fields_f ((5 : Int32)).toNatClampNeg) (o_fields_f ((6 : Int32)).toNatClampNeg))), (12, .int (o_fields_f ((6 : Int32)).toNatClampNeg)), (11, .int (o_fields_f ((5 : Int32)).toNatClampNeg)), (10, .int (1 : Int32)), (14, .int x30), (5, .int x24), (13, .int (f_X7_place (rPats (p0).toNatClampNeg) (0 : Int32))), (9, .int x51), (8, .int x47), (7, .int x43), (6, .int x36), (3, .int (rPats (p0).toNatClampNeg)), (2, .int (o_fields_f ((1 : Int32)).toNatClampNeg)), (0, .ref o), (1, .int p0)]) hx hb dX7_tries_239 hl (by decide) rfl (fun ls hl => ?_)
                          refine lv_iload_n hx hb dX7_tries_241 rfl (lv_at hl 11 rfl) ?_
                          refine lv_iload hx hb dX7_tries_242 (lv_at hl 3 rfl) ?_
                          refine qw_callS (As := [.int (rPats (p0).toNatClampNeg), .int (1 : Int32)]) (rest := []) (ws' := [(o, .inr (6, [.int o_thrown, .int (115 : Int32), .ref o_ops, .ref o_sizes, .ref o_patterns, .ref o_leads, .ref o_codes, .ref o_tells, .ref o_numbers, .ref o_fields, .ref o_found, .long o_number, .long o_foundNumber, .ref o_bytes, .ref o_trial, .ref o_fed, .int o_length, .int o_tried, .int o_given, .int o_at, .int o_pfx, .int o_pfd, .int o_short0])), (o_ops, .inl (cI, 160, .inl rOps)), (o_sizes, .inl (cI, 160, .inl rSizes)), (o_patterns, .inl (cI, 160, .inl rPats)), (o_leads, .inl (cI, 160, .inl rLeads)), (o_codes, .inl (cI, 160, .inl rCodes)), (o_tells, .inl (cI, 160, .inl rTells)), (o_numbers, .inl (cI, 160, .inl rNums)), (o_fields, .inl (cI, 13, .inl o_fields_f)), (o_trial, .inl (cI, 20, .inl o_trial_f))]) (st1 := [.int (f_X7_place (rPats (p0).toNatClampNeg) (1 : Int32))]) ⟨hx, hb, hml, hown, hts⟩ (c_X7_place l D cI tT (rPats (p0).toNatClampNeg) (1 : Int32) (f_X7_place (rPats (p0).toNatClampNeg) (1 : Int32)) rfl) (va_cwS 2 hts gX7_tries_X7_place rfl rfl rfl (by decide +kernel) ⟨Nat.le_of_ble_eq_true rfl, Nat.le_of_ble_eq_true rfl⟩) hXg hK hP hD hS hA hXs [] rfl rfl  rfl rfl rfl hl.1 rfl (Nat.le_of_ble_eq_true rfl) rfl ⟨Nat.zero_le _, Nat.zero_le _⟩ dX7_tries_244 (fun H locs hP hD hS => ?_)
                          refine lv_istore (lv' := [(13, .int (f_X7_place (rPats (p0).toNatClampNeg) (1 : Int32))), (4, .int (f_X7_suits o_number o_fields_f p0 (1 : Int32) (o_fields_f ((5 : Int32)).toNatClampNeg) (o_fields_f ((6 : Int32)).toNatClampNeg))), (12, .int (o_fields_f ((6 : Int32)).toNatClampNeg)), (11, .int (o_fields_f ((5 : Int32)).toNatClampNeg)), (10, .int (1 : Int32)), (14, .int x30), (5, .int x24), (9, .int x51), (8, .int x47), (7, .int x43), (6, .int x36), (3, .int (rPats (p0).toNatClampNeg)), (2, .int (o_fields_f ((1 : Int32)).toNatClampNeg)), (0, .ref o), (1, .int p0)]) hx hb dX7_tries_247 hl (by decide) rfl (fun ls hl => ?_)
                          refine lv_iload hx hb dX7_tries_249 (lv_at hl 6 rfl) ?_
                          have J57 : ∀ (x56 : Int32) (hb_x56 : x56 = 0 ∨ x56 = 1) (hv_x56 : qv (0) (1) x56) (ls : Array Slot) (H : Heap) (locs : List Loc), f_X7_tries_J57 o_number o_tried o_fields_f o_trial_f p0 x36 x43 x47 x51 x56 = (r_o, o_tried_o, o_trial_f_o) → lv_has ls 15 [(13, .int (f_X7_place (rPats (p0).toNatClampNeg) (1 : Int32))), (4, .int (f_X7_suits o_number o_fields_f p0 (1 : Int32) (o_fields_f ((5 : Int32)).toNatClampNeg) (o_fields_f ((6 : Int32)).toNatClampNeg))), (12, .int (o_fields_f ((6 : Int32)).toNatClampNeg)), (11, .int (o_fields_f ((5 : Int32)).toNatClampNeg)), (10, .int (1 : Int32)), (14, .int x30), (5, .int x24), (9, .int x51), (8, .int x47), (7, .int x43), (6, .int x36), (3, .int (rPats (p0).toNatClampNeg)), (2, .int (o_fields_f ((1 : Int32)).toNatClampNeg)), (0, .ref o), (1, .int p0)] → va_P D vwCl [(o, .inr (6, [.int o_thrown, .int (115 : Int32), .ref o_ops, .ref o_sizes, .ref o_patterns, .ref o_leads, .ref o_codes, .ref o_tells, .ref o_numbers, .ref o_fields, .ref o_found, .long o_number, .long o_foundNumber, .ref o_bytes, .ref o_trial, .ref o_fed, .int o_length, .int o_tried, .int o_given, .int o_at, .int o_pfx, .int o_pfd, .int o_short0])), (o_ops, .inl (cI, 160, .inl rOps)), (o_sizes, .inl (cI, 160, .inl rSizes)), (o_patterns, .inl (cI, 160, .inl rPats)), (o_leads, .inl (cI, 160, .inl rLeads)), (o_codes, .inl (cI, 160, .inl rCodes)), (o_tells, .inl (cI, 160, .inl rTells)), (o_numbers, .inl (cI, 160, .inl rNums)), (o_fields, .inl (cI, 13, .inl o_fields_f)), (o_trial, .inl (cI, 20, .inl o_trial_f))] H → va_D A [(o, .inr (6, [.int o_thrown, .int (115 : Int32), .ref o_ops, .ref o_sizes, .ref o_patterns, .ref o_leads, .ref o_codes, .ref o_tells, .ref o_numbers, .ref o_fields, .ref o_found, .long o_number, .long o_foundNumber, .ref o_bytes, .ref o_trial, .ref o_fed, .int o_length, .int o_tried, .int o_given, .int o_at, .int o_pfx, .int o_pfd, .int o_short0])), (o_ops, .inl (cI, 160, .inl rOps)), (o_sizes, .inl (cI, 160, .inl rSizes)), (o_patterns, .inl (cI, 160, .inl rPats)), (o_leads, .inl (cI, 160, .inl rLeads)), (o_codes, .inl (cI, 160, .inl rCodes)), (o_tells, .inl (cI, 160, .inl rTells)), (o_numbers, .inl (cI, 160, .inl rNums)), (o_fields, .inl (cI, 13, .inl o_fields_f)), (o_trial, .inl (cI, 20, .inl o_trial_f))] → va_S A s.heap H locs → W p l e (qr 3 73) s m args below meth c H locs 0 0 Z (F0 m 265 ls [.int x56]) := by
                            intro x56 hb_x56 hv_x56 ls H locs E hl hP hD hS
                            rw [f_X7_tries_J57] at E
                            refine lv_istore (lv' := [(5, .int x56), (13, .int (f_X7_place (rPats (p0).toNatClampNeg) (1 : Int32))), (4, .int (f_X7_suits o_number o_fields_f p0 (1 : Int32) (o_fields_f ((5 : Int32)).toNatClampNeg) (o_fields_f ((6 : Int32)).toNatClampNeg))), (12, .int (o_fields_f ((6 : Int32)).toNatClampNeg)), (11, .int (o_fields_f ((5 : Int32)).toNatClampNeg)), (10, .int (1 : Int32)), (14, .int x30), (9, .int x51), (8, .int x47), (7, .int x43), (6, .int x36), (3, .int (rPats (p0).toNatClampNeg)), (2, .int (o_fields_f ((1 : Int32)).toNatClampNeg)), (0, .ref o), (1, .int p0)]) hx hb dX7_tries_265 hl (by decide) rfl (fun ls hl => ?_)
                            refine lv_iload hx hb dX7_tries_267 (lv_at hl 4 rfl) ?_
                            refine lv_iconst (v := (1 : Int32)) hx hb dX7_tries_269 (by decide) ?_
                            have J63 : ∀ (x62 : Int32) (hb_x62 : x62 = 0 ∨ x62 = 1) (hv_x62 : qv (0) (1) x62) (ls : Array Slot) (H : Heap) (locs : List Loc), f_X7_tries_J63 o_number o_tried o_fields_f o_trial_f p0 x36 x43 x47 x51 x56 x62 = (r_o, o_tried_o, o_trial_f_o) → lv_has ls 15 [(5, .int x56), (13, .int (f_X7_place (rPats (p0).toNatClampNeg) (1 : Int32))), (4, .int (f_X7_suits o_number o_fields_f p0 (1 : Int32) (o_fields_f ((5 : Int32)).toNatClampNeg) (o_fields_f ((6 : Int32)).toNatClampNeg))), (12, .int (o_fields_f ((6 : Int32)).toNatClampNeg)), (11, .int (o_fields_f ((5 : Int32)).toNatClampNeg)), (10, .int (1 : Int32)), (14, .int x30), (9, .int x51), (8, .int x47), (7, .int x43), (6, .int x36), (3, .int (rPats (p0).toNatClampNeg)), (2, .int (o_fields_f ((1 : Int32)).toNatClampNeg)), (0, .ref o), (1, .int p0)] → va_P D vwCl [(o, .inr (6, [.int o_thrown, .int (115 : Int32), .ref o_ops, .ref o_sizes, .ref o_patterns, .ref o_leads, .ref o_codes, .ref o_tells, .ref o_numbers, .ref o_fields, .ref o_found, .long o_number, .long o_foundNumber, .ref o_bytes, .ref o_trial, .ref o_fed, .int o_length, .int o_tried, .int o_given, .int o_at, .int o_pfx, .int o_pfd, .int o_short0])), (o_ops, .inl (cI, 160, .inl rOps)), (o_sizes, .inl (cI, 160, .inl rSizes)), (o_patterns, .inl (cI, 160, .inl rPats)), (o_leads, .inl (cI, 160, .inl rLeads)), (o_codes, .inl (cI, 160, .inl rCodes)), (o_tells, .inl (cI, 160, .inl rTells)), (o_numbers, .inl (cI, 160, .inl rNums)), (o_fields, .inl (cI, 13, .inl o_fields_f)), (o_trial, .inl (cI, 20, .inl o_trial_f))] H → va_D A [(o, .inr (6, [.int o_thrown, .int (115 : Int32), .ref o_ops, .ref o_sizes, .ref o_patterns, .ref o_leads, .ref o_codes, .ref o_tells, .ref o_numbers, .ref o_fields, .ref o_found, .long o_number, .long o_foundNumber, .ref o_bytes, .ref o_trial, .ref o_fed, .int o_length, .int o_tried, .int o_given, .int o_at, .int o_pfx, .int o_pfd, .int o_short0])), (o_ops, .inl (cI, 160, .inl rOps)), (o_sizes, .inl (cI, 160, .inl rSizes)), (o_patterns, .inl (cI, 160, .inl rPats)), (o_leads, .inl (cI, 160, .inl rLeads)), (o_codes, .inl (cI, 160, .inl rCodes)), (o_tells, .inl (cI, 160, .inl rTells)), (o_numbers, .inl (cI, 160, .inl rNums)), (o_fields, .inl (cI, 13, .inl o_fields_f)), (o_trial, .inl (cI, 20, .inl o_trial_f))] → va_S A s.heap H locs → W p l e (qr 3 73) s m args below meth c H locs 0 0 Z (F0 m 296 ls [.int x62]) := by
                              intro x62 hb_x62 hv_x62 ls H locs E hl hP hD hS
                              rw [f_X7_tries_J63] at E
                              refine lv_istore (lv' := [(14, .int x62), (5, .int x56), (13, .int (f_X7_place (rPats (p0).toNatClampNeg) (1 : Int32))), (4, .int (f_X7_suits o_number o_fields_f p0 (1 : Int32) (o_fields_f ((5 : Int32)).toNatClampNeg) (o_fields_f ((6 : Int32)).toNatClampNeg))), (12, .int (o_fields_f ((6 : Int32)).toNatClampNeg)), (11, .int (o_fields_f ((5 : Int32)).toNatClampNeg)), (10, .int (1 : Int32)), (9, .int x51), (8, .int x47), (7, .int x43), (6, .int x36), (3, .int (rPats (p0).toNatClampNeg)), (2, .int (o_fields_f ((1 : Int32)).toNatClampNeg)), (0, .ref o), (1, .int p0)]) hx hb dX7_tries_296 hl (by decide) rfl (fun ls hl => ?_)
                              refine lv_iload hx hb dX7_tries_298 (lv_at hl 0 rfl) ?_
                              have J69 : ∀ (x68 : Int32) (hb_x68 : x68 = 0 ∨ x68 = 1) (hv_x68 : qv (0) (1) x68) (ls : Array Slot) (H : Heap) (locs : List Loc), f_X7_tries_J69 o_number o_tried o_fields_f o_trial_f p0 x43 x47 x51 x56 x62 x68 = (r_o, o_tried_o, o_trial_f_o) → lv_has ls 15 [(14, .int x62), (5, .int x56), (13, .int (f_X7_place (rPats (p0).toNatClampNeg) (1 : Int32))), (4, .int (f_X7_suits o_number o_fields_f p0 (1 : Int32) (o_fields_f ((5 : Int32)).toNatClampNeg) (o_fields_f ((6 : Int32)).toNatClampNeg))), (12, .int (o_fields_f ((6 : Int32)).toNatClampNeg)), (11, .int (o_fields_f ((5 : Int32)).toNatClampNeg)), (10, .int (1 : Int32)), (9, .int x51), (8, .int x47), (7, .int x43), (6, .int x68), (3, .int (rPats (p0).toNatClampNeg)), (2, .int (o_fields_f ((1 : Int32)).toNatClampNeg)), (0, .ref o), (1, .int p0)] → va_P D vwCl [(o, .inr (6, [.int o_thrown, .int (115 : Int32), .ref o_ops, .ref o_sizes, .ref o_patterns, .ref o_leads, .ref o_codes, .ref o_tells, .ref o_numbers, .ref o_fields, .ref o_found, .long o_number, .long o_foundNumber, .ref o_bytes, .ref o_trial, .ref o_fed, .int o_length, .int o_tried, .int o_given, .int o_at, .int o_pfx, .int o_pfd, .int o_short0])), (o_ops, .inl (cI, 160, .inl rOps)), (o_sizes, .inl (cI, 160, .inl rSizes)), (o_patterns, .inl (cI, 160, .inl rPats)), (o_leads, .inl (cI, 160, .inl rLeads)), (o_codes, .inl (cI, 160, .inl rCodes)), (o_tells, .inl (cI, 160, .inl rTells)), (o_numbers, .inl (cI, 160, .inl rNums)), (o_fields, .inl (cI, 13, .inl o_fields_f)), (o_trial, .inl (cI, 20, .inl o_trial_f))] H → va_D A [(o, .inr (6, [.int o_thrown, .int (115 : Int32), .ref o_ops, .ref o_sizes, .ref o_patterns, .ref o_leads, .ref o_codes, .ref o_tells, .ref o_numbers, .ref o_fields, .ref o_found, .long o_number, .long o_foundNumber, .ref o_bytes, .ref o_trial, .ref o_fed, .int o_length, .int o_tried, .int o_given, .int o_at, .int o_pfx, .int o_pfd, .int o_short0])), (o_ops, .inl (cI, 160, .inl rOps)), (o_sizes, .inl (cI, 160, .inl rSizes)), (o_patterns, .inl (cI, 160, .inl rPats)), (o_leads, .inl (cI, 160, .inl rLeads)), (o_codes, .inl (cI, 160, .inl rCodes)), (o_tells, .inl (cI, 160, .inl rTells)), (o_numbers, .inl (cI, 160, .inl rNums)), (o_fields, .inl (cI, 13, .inl o_fields_f)), (o_trial, .inl (cI, 20, .inl o_trial_f))] → va_S A s.heap H locs → W p l e (qr 3 73) s m args below meth c H locs 0 0 Z (F0 m 331 ls []) := by
                                intro x68 hb_x68 hv_x68 ls H locs E hl hP hD hS
                                rw [f_X7_tries_J69] at E
                                refine lv_iload hx hb dX7_tries_331 (lv_at hl 0 rfl) ?_
                                have J76 : ∀ (x75 : Int32) (ls : Array Slot) (H : Heap) (locs : List Loc), f_X7_tries_J76 o_number o_tried o_fields_f o_trial_f p0 x47 x51 x56 x62 x68 x75 = (r_o, o_tried_o, o_trial_f_o) → lv_has ls 15 [(14, .int x62), (5, .int x56), (13, .int (f_X7_place (rPats (p0).toNatClampNeg) (1 : Int32))), (4, .int (f_X7_suits o_number o_fields_f p0 (1 : Int32) (o_fields_f ((5 : Int32)).toNatClampNeg) (o_fields_f ((6 : Int32)).toNatClampNeg))), (12, .int (o_fields_f ((6 : Int32)).toNatClampNeg)), (11, .int (o_fields_f ((5 : Int32)).toNatClampNeg)), (10, .int (1 : Int32)), (9, .int x51), (8, .int x47), (7, .int x75), (6, .int x68), (3, .int (rPats (p0).toNatClampNeg)), (2, .int (o_fields_f ((1 : Int32)).toNatClampNeg)), (0, .ref o), (1, .int p0)] → va_P D vwCl [(o, .inr (6, [.int o_thrown, .int (115 : Int32), .ref o_ops, .ref o_sizes, .ref o_patterns, .ref o_leads, .ref o_codes, .ref o_tells, .ref o_numbers, .ref o_fields, .ref o_found, .long o_number, .long o_foundNumber, .ref o_bytes, .ref o_trial, .ref o_fed, .int o_length, .int o_tried, .int o_given, .int o_at, .int o_pfx, .int o_pfd, .int o_short0])), (o_ops, .inl (cI, 160, .inl rOps)), (o_sizes, .inl (cI, 160, .inl rSizes)), (o_patterns, .inl (cI, 160, .inl rPats)), (o_leads, .inl (cI, 160, .inl rLeads)), (o_codes, .inl (cI, 160, .inl rCodes)), (o_tells, .inl (cI, 160, .inl rTells)), (o_numbers, .inl (cI, 160, .inl rNums)), (o_fields, .inl (cI, 13, .inl o_fields_f)), (o_trial, .inl (cI, 20, .inl o_trial_f))] H → va_D A [(o, .inr (6, [.int o_thrown, .int (115 : Int32), .ref o_ops, .ref o_sizes, .ref o_patterns, .ref o_leads, .ref o_codes, .ref o_tells, .ref o_numbers, .ref o_fields, .ref o_found, .long o_number, .long o_foundNumber, .ref o_bytes, .ref o_trial, .ref o_fed, .int o_length, .int o_tried, .int o_given, .int o_at, .int o_pfx, .int o_pfd, .int o_short0])), (o_ops, .inl (cI, 160, .inl rOps)), (o_sizes, .inl (cI, 160, .inl rSizes)), (o_patterns, .inl (cI, 160, .inl rPats)), (o_leads, .inl (cI, 160, .inl rLeads)), (o_codes, .inl (cI, 160, .inl rCodes)), (o_tells, .inl (cI, 160, .inl rTells)), (o_numbers, .inl (cI, 160, .inl rNums)), (o_fields, .inl (cI, 13, .inl o_fields_f)), (o_trial, .inl (cI, 20, .inl o_trial_f))] → va_S A s.heap H locs → W p l e (qr 3 73) s m args below meth c H locs 0 0 Z (F0 m 359 ls []) := by
                                  intro x75 ls H locs E hl hP hD hS
                                  rw [f_X7_tries_J76] at E
                                  refine lv_iload hx hb dX7_tries_359 (lv_at hl 0 rfl) ?_
                                  have J80 : ∀ (x79 : Int32) (ls : Array Slot) (H : Heap) (locs : List Loc), f_X7_tries_J80 o_number o_tried o_fields_f o_trial_f p0 x51 x56 x62 x68 x75 x79 = (r_o, o_tried_o, o_trial_f_o) → lv_has ls 15 [(14, .int x62), (5, .int x56), (13, .int (f_X7_place (rPats (p0).toNatClampNeg) (1 : Int32))), (4, .int (f_X7_suits o_number o_fields_f p0 (1 : Int32) (o_fields_f ((5 : Int32)).toNatClampNeg) (o_fields_f ((6 : Int32)).toNatClampNeg))), (12, .int (o_fields_f ((6 : Int32)).toNatClampNeg)), (11, .int (o_fields_f ((5 : Int32)).toNatClampNeg)), (10, .int (1 : Int32)), (9, .int x51), (8, .int x79), (7, .int x75), (6, .int x68), (3, .int (rPats (p0).toNatClampNeg)), (2, .int (o_fields_f ((1 : Int32)).toNatClampNeg)), (0, .ref o), (1, .int p0)] → va_P D vwCl [(o, .inr (6, [.int o_thrown, .int (115 : Int32), .ref o_ops, .ref o_sizes, .ref o_patterns, .ref o_leads, .ref o_codes, .ref o_tells, .ref o_numbers, .ref o_fields, .ref o_found, .long o_number, .long o_foundNumber, .ref o_bytes, .ref o_trial, .ref o_fed, .int o_length, .int o_tried, .int o_given, .int o_at, .int o_pfx, .int o_pfd, .int o_short0])), (o_ops, .inl (cI, 160, .inl rOps)), (o_sizes, .inl (cI, 160, .inl rSizes)), (o_patterns, .inl (cI, 160, .inl rPats)), (o_leads, .inl (cI, 160, .inl rLeads)), (o_codes, .inl (cI, 160, .inl rCodes)), (o_tells, .inl (cI, 160, .inl rTells)), (o_numbers, .inl (cI, 160, .inl rNums)), (o_fields, .inl (cI, 13, .inl o_fields_f)), (o_trial, .inl (cI, 20, .inl o_trial_f))] H → va_D A [(o, .inr (6, [.int o_thrown, .int (115 : Int32), .ref o_ops, .ref o_sizes, .ref o_patterns, .ref o_leads, .ref o_codes, .ref o_tells, .ref o_numbers, .ref o_fields, .ref o_found, .long o_number, .long o_foundNumber, .ref o_bytes, .ref o_trial, .ref o_fed, .int o_length, .int o_tried, .int o_given, .int o_at, .int o_pfx, .int o_pfd, .int o_short0])), (o_ops, .inl (cI, 160, .inl rOps)), (o_sizes, .inl (cI, 160, .inl rSizes)), (o_patterns, .inl (cI, 160, .inl rPats)), (o_leads, .inl (cI, 160, .inl rLeads)), (o_codes, .inl (cI, 160, .inl rCodes)), (o_tells, .inl (cI, 160, .inl rTells)), (o_numbers, .inl (cI, 160, .inl rNums)), (o_fields, .inl (cI, 13, .inl o_fields_f)), (o_trial, .inl (cI, 20, .inl o_trial_f))] → va_S A s.heap H locs → W p l e (qr 3 73) s m args below meth c H locs 0 0 Z (F0 m 377 ls []) := by
                                    intro x79 ls H locs E hl hP hD hS
                                    rw [f_X7_tries_J80] at E
                                    refine lv_iload hx hb dX7_tries_377 (lv_at hl 0 rfl) ?_
                                    have J84 : ∀ (x83 : Int32) (ls : Array Slot) (H : Heap) (locs : List Loc), f_X7_tries_J84 o_number o_tried o_fields_f o_trial_f p0 x56 x68 x75 x79 x83 = (r_o, o_tried_o, o_trial_f_o) → lv_has ls 15 [(14, .int x62), (5, .int x56), (13, .int (f_X7_place (rPats (p0).toNatClampNeg) (1 : Int32))), (4, .int (f_X7_suits o_number o_fields_f p0 (1 : Int32) (o_fields_f ((5 : Int32)).toNatClampNeg) (o_fields_f ((6 : Int32)).toNatClampNeg))), (12, .int (o_fields_f ((6 : Int32)).toNatClampNeg)), (11, .int (o_fields_f ((5 : Int32)).toNatClampNeg)), (10, .int (1 : Int32)), (9, .int x83), (8, .int x79), (7, .int x75), (6, .int x68), (3, .int (rPats (p0).toNatClampNeg)), (2, .int (o_fields_f ((1 : Int32)).toNatClampNeg)), (0, .ref o), (1, .int p0)] → va_P D vwCl [(o, .inr (6, [.int o_thrown, .int (115 : Int32), .ref o_ops, .ref o_sizes, .ref o_patterns, .ref o_leads, .ref o_codes, .ref o_tells, .ref o_numbers, .ref o_fields, .ref o_found, .long o_number, .long o_foundNumber, .ref o_bytes, .ref o_trial, .ref o_fed, .int o_length, .int o_tried, .int o_given, .int o_at, .int o_pfx, .int o_pfd, .int o_short0])), (o_ops, .inl (cI, 160, .inl rOps)), (o_sizes, .inl (cI, 160, .inl rSizes)), (o_patterns, .inl (cI, 160, .inl rPats)), (o_leads, .inl (cI, 160, .inl rLeads)), (o_codes, .inl (cI, 160, .inl rCodes)), (o_tells, .inl (cI, 160, .inl rTells)), (o_numbers, .inl (cI, 160, .inl rNums)), (o_fields, .inl (cI, 13, .inl o_fields_f)), (o_trial, .inl (cI, 20, .inl o_trial_f))] H → va_D A [(o, .inr (6, [.int o_thrown, .int (115 : Int32), .ref o_ops, .ref o_sizes, .ref o_patterns, .ref o_leads, .ref o_codes, .ref o_tells, .ref o_numbers, .ref o_fields, .ref o_found, .long o_number, .long o_foundNumber, .ref o_bytes, .ref o_trial, .ref o_fed, .int o_length, .int o_tried, .int o_given, .int o_at, .int o_pfx, .int o_pfd, .int o_short0])), (o_ops, .inl (cI, 160, .inl rOps)), (o_sizes, .inl (cI, 160, .inl rSizes)), (o_patterns, .inl (cI, 160, .inl rPats)), (o_leads, .inl (cI, 160, .inl rLeads)), (o_codes, .inl (cI, 160, .inl rCodes)), (o_tells, .inl (cI, 160, .inl rTells)), (o_numbers, .inl (cI, 160, .inl rNums)), (o_fields, .inl (cI, 13, .inl o_fields_f)), (o_trial, .inl (cI, 20, .inl o_trial_f))] → va_S A s.heap H locs → W p l e (qr 3 73) s m args below meth c H locs 0 0 Z (F0 m 395 ls []) := by
                                      intro x83 ls H locs E hl hP hD hS
                                      rw [f_X7_tries_J84] at E
                                      refine lv_iinc (v := (2 : Int32)) (lv' := [(10, .int (2 : Int32)), (14, .int x62), (5, .int x56), (13, .int (f_X7_place (rPats (p0).toNatClampNeg) (1 : Int32))), (4, .int (f_X7_suits o_number o_fields_f p0 (1 : Int32) (o_fields_f ((5 : Int32)).toNatClampNeg) (o_fields_f ((6 : Int32)).toNatClampNeg))), (12, .int (o_fields_f ((6 : Int32)).toNatClampNeg)), (11, .int (o_fields_f ((5 : Int32)).toNatClampNeg)), (9, .int x83), (8, .int x79), (7, .int x75), (6, .int x68), (3, .int (rPats (p0).toNatClampNeg)), (2, .int (o_fields_f ((1 : Int32)).toNatClampNeg)), (0, .ref o), (1, .int p0)]) hx hb dX7_tries_395 hl (k := 6) rfl (by first | rfl | decide) (by decide) rfl (fun ls hl => ?_)
                                      refine lv_goto (tgt := 191) hx hb dX7_tries_398 (by decide) ?_
                                      refine lv_iload hx hb dX7_tries_191 (lv_at hl 0 rfl) ?_
                                      refine lv_iconst (v := (3 : Int32)) hx hb dX7_tries_193 (by decide) ?_
                                      refine lv_icmp_ge (tgt := 401) hx hb dX7_tries_194 (by decide) (fun c9 => absurd c9 (by decide)) (fun _ => ?_)
                                      refine lv_iload hx hb dX7_tries_197 (lv_at hl 4 rfl) ?_
                                      refine lv_if_eq (tgt := 401) hx hb dX7_tries_199 (by decide) (fun c85 => ?_) (fun c85 => ?_)
                                      · rw [if_pos c85] at E
                                        exact J124 (2 : Int32) (qv_w (⟨by decide, by decide⟩ : qv (2) (2) (2 : Int32)) (by decide) (by decide)) x83 x79 x75 x68 hb_x68 (qv_w (⟨hv_x68.1, hv_x68.2⟩ : qv (0) (1) x68) (by decide) (by decide)) x56 hb_x56 (qv_w (⟨hv_x56.1, hv_x56.2⟩ : qv (0) (1) x56) (by decide) (by decide)) (f_X7_suits o_number o_fields_f p0 (1 : Int32) (o_fields_f ((5 : Int32)).toNatClampNeg) (o_fields_f ((6 : Int32)).toNatClampNeg)) ls _ _ E (lv_sub hl [0, 7, 8, 9, 10, 2, 4, 11, 12, 13, 14] rfl) hP hD hS
                                      · rw [if_neg c85] at E
                                        refine lv_aload_n hx hb dX7_tries_202 rfl (lv_at hl 13 rfl) ?_
                                        refine va_get (D := D) (ci := 6) (v := .ref o_fields) (C := RX7) (T := TX7) (N := 23) hx hb hts hi_X7 hown hK hP 0 rfl rfl 9 (by decide) lk31 (fun _ h9 => h9) rfl dX7_tries_203 ?_
                                        refine lv_iconst (v := (3 : Int32)) hx hb dX7_tries_206 (by decide) ?_
                                        refine lv_iconst (v := (2 : Int32)) hx hb dX7_tries_207 (by decide) ?_
                                        refine lv_iload hx hb dX7_tries_208 (lv_at hl 0 rfl) ?_
                                        refine lv_imul hx hb dX7_tries_210 ?_
                                        refine qw_topi (v := (4 : Int32)) (by decide) ?_
                                        refine lv_iadd hx hb dX7_tries_211 ?_
                                        refine qw_topi (v := (7 : Int32)) (by decide) ?_
                                        refine va_iald hx hb hK hP 8 0 rfl rfl (qw_in0 (x := (7 : Int32)) (n := 13) (by decide) (by decide)) dX7_tries_212 ?_
                                        refine lv_istore (lv' := [(11, .int (o_fields_f ((7 : Int32)).toNatClampNeg)), (10, .int (2 : Int32)), (14, .int x62), (5, .int x56), (13, .int (f_X7_place (rPats (p0).toNatClampNeg) (1 : Int32))), (4, .int (f_X7_suits o_number o_fields_f p0 (1 : Int32) (o_fields_f ((5 : Int32)).toNatClampNeg) (o_fields_f ((6 : Int32)).toNatClampNeg))), (12, .int (o_fields_f ((6 : Int32)).toNatClampNeg)), (9, .int x83), (8, .int x79), (7, .int x75), (6, .int x68), (3, .int (rPats (p0).toNatClampNeg)), (2, .int (o_fields_f ((1 : Int32)).toNatClampNeg)), (0, .ref o), (1, .int p0)]) hx hb dX7_tries_213 hl (by decide) rfl (fun ls hl => ?_)
                                        refine lv_aload_n hx hb dX7_tries_215 rfl (lv_at hl 13 rfl) ?_
                                        refine va_get (D := D) (ci := 6) (v := .ref o_fields) (C := RX7) (T := TX7) (N := 23) hx hb hts hi_X7 hown hK hP 0 rfl rfl 9 (by decide) lk31 (fun _ h9 => h9) rfl dX7_tries_216 ?_
                                        refine lv_iconst (v := (4 : Int32)) hx hb dX7_tries_219 (by decide) ?_
                                        refine lv_iconst (v := (2 : Int32)) hx hb dX7_tries_220 (by decide) ?_
                                        refine lv_iload hx hb dX7_tries_221 (lv_at hl 1 rfl) ?_
                                        refine lv_imul hx hb dX7_tries_223 ?_
                                        refine qw_topi (v := (4 : Int32)) (by decide) ?_
                                        refine lv_iadd hx hb dX7_tries_224 ?_
                                        refine qw_topi (v := (8 : Int32)) (by decide) ?_
                                        refine va_iald hx hb hK hP 8 0 rfl rfl (qw_in0 (x := (8 : Int32)) (n := 13) (by decide) (by decide)) dX7_tries_225 ?_
                                        refine lv_istore (lv' := [(12, .int (o_fields_f ((8 : Int32)).toNatClampNeg)), (11, .int (o_fields_f ((7 : Int32)).toNatClampNeg)), (10, .int (2 : Int32)), (14, .int x62), (5, .int x56), (13, .int (f_X7_place (rPats (p0).toNatClampNeg) (1 : Int32))), (4, .int (f_X7_suits o_number o_fields_f p0 (1 : Int32) (o_fields_f ((5 : Int32)).toNatClampNeg) (o_fields_f ((6 : Int32)).toNatClampNeg))), (9, .int x83), (8, .int x79), (7, .int x75), (6, .int x68), (3, .int (rPats (p0).toNatClampNeg)), (2, .int (o_fields_f ((1 : Int32)).toNatClampNeg)), (0, .ref o), (1, .int p0)]) hx hb dX7_tries_226 hl (by decide) rfl (fun ls hl => ?_)
                                        refine lv_aload_n hx hb dX7_tries_228 rfl (lv_at hl 13 rfl) ?_
                                        refine lv_iload_n hx hb dX7_tries_229 rfl (lv_at hl 14 rfl) ?_
                                        refine lv_iload hx hb dX7_tries_230 (lv_at hl 2 rfl) ?_
                                        refine lv_iload hx hb dX7_tries_232 (lv_at hl 1 rfl) ?_
                                        refine lv_iload hx hb dX7_tries_234 (lv_at hl 0 rfl) ?_
                                        refine qw_callV (As := [.int p0, .int (2 : Int32), .int (o_fields_f ((7 : Int32)).toNatClampNeg), .int (o_fields_f ((8 : Int32)).toNatClampNeg)]) (rest := []) (ws' := [(o, .inr (6, [.int o_thrown, .int (115 : Int32), .ref o_ops, .ref o_sizes, .ref o_patterns, .ref o_leads, .ref o_codes, .ref o_tells, .ref o_numbers, .ref o_fields, .ref o_found, .long o_number, .long o_foundNumber, .ref o_bytes, .ref o_trial, .ref o_fed, .int o_length, .int o_tried, .int o_given, .int o_at, .int o_pfx, .int o_pfd, .int o_short0])), (o_ops, .inl (cI, 160, .inl rOps)), (o_sizes, .inl (cI, 160, .inl rSizes)), (o_patterns, .inl (cI, 160, .inl rPats)), (o_leads, .inl (cI, 160, .inl rLeads)), (o_codes, .inl (cI, 160, .inl rCodes)), (o_tells, .inl (cI, 160, .inl rTells)), (o_numbers, .inl (cI, 160, .inl rNums)), (o_fields, .inl (cI, 13, .inl o_fields_f)), (o_trial, .inl (cI, 20, .inl o_trial_f))]) (st1 := [.int (f_X7_suits o_number o_fields_f p0 (2 : Int32) (o_fields_f ((7 : Int32)).toNatClampNeg) (o_fields_f ((8 : Int32)).toNatClampNeg))]) ⟨hx, hb, hml, hown, hts⟩ (c_X7_suits l D cI tT o o_ops o_sizes o_patterns o_leads o_codes o_tells o_numbers o_fields o_found o_bytes o_trial o_fed o_thrown o_number o_foundNumber o_length o_tried o_given o_at o_pfx o_pfd o_short0 o_fields_f p0 (2 : Int32) (o_fields_f ((7 : Int32)).toNatClampNeg) (o_fields_f ((8 : Int32)).toNatClampNeg) (qv_w (⟨hv_p0.1, hv_p0.2⟩ : qv (0) (114) p0) (by decide) (by decide) : qv (0) (114) p0) (f_X7_suits o_number o_fields_f p0 (2 : Int32) (o_fields_f ((7 : Int32)).toNatClampNeg) (o_fields_f ((8 : Int32)).toNatClampNeg)) rfl) (cwV 4 hts gX7_tries_X7_suits rfl rfl rfl (by decide +kernel) ⟨Nat.le_of_ble_eq_true rfl, Nat.le_of_ble_eq_true rfl⟩) hXg hK hP hD hS hA hXs [0, 3, 7, 8] rfl rfl  rfl rfl rfl rfl rfl rfl hl.1 rfl (Nat.le_of_ble_eq_true rfl) rfl ⟨Nat.zero_le _, Nat.zero_le _⟩ dX7_tries_236 (fun H locs hP hD hS => ?_)
                                        refine lv_istore (lv' := [(4, .int (f_X7_suits o_number o_fields_f p0 (2 : Int32) (o_fields_f ((7 : Int32)).toNatClampNeg) (o_fields_f ((8 : Int32)).toNatClampNeg))), (12, .int (o_fields_f ((8 : Int32)).toNatClampNeg)), (11, .int (o_fields_f ((7 : Int32)).toNatClampNeg)), (10, .int (2 : Int32)), (14, .int x62), (5, .int x56), (13, .int (f_X7_place (rPats (p0).toNatClampNeg) (1 : Int32))), (9, .int x83), (8, .int x79), (7, .int x75), (6, .int x68), (3, .int (rPats (p0).toNatClampNeg)), (2, .int (o_fields_f ((1 : Int32)).toNatClampNeg)), (0, .ref o), (1, .int p0)]) hx hb dX7_tries_239 hl (by decide) rfl (fun ls hl => ?_)
                                        refine lv_iload_n hx hb dX7_tries_241 rfl (lv_at hl 11 rfl) ?_
                                        refine lv_iload hx hb dX7_tries_242 (lv_at hl 3 rfl) ?_
                                        refine qw_callS (As := [.int (rPats (p0).toNatClampNeg), .int (2 : Int32)]) (rest := []) (ws' := [(o, .inr (6, [.int o_thrown, .int (115 : Int32), .ref o_ops, .ref o_sizes, .ref o_patterns, .ref o_leads, .ref o_codes, .ref o_tells, .ref o_numbers, .ref o_fields, .ref o_found, .long o_number, .long o_foundNumber, .ref o_bytes, .ref o_trial, .ref o_fed, .int o_length, .int o_tried, .int o_given, .int o_at, .int o_pfx, .int o_pfd, .int o_short0])), (o_ops, .inl (cI, 160, .inl rOps)), (o_sizes, .inl (cI, 160, .inl rSizes)), (o_patterns, .inl (cI, 160, .inl rPats)), (o_leads, .inl (cI, 160, .inl rLeads)), (o_codes, .inl (cI, 160, .inl rCodes)), (o_tells, .inl (cI, 160, .inl rTells)), (o_numbers, .inl (cI, 160, .inl rNums)), (o_fields, .inl (cI, 13, .inl o_fields_f)), (o_trial, .inl (cI, 20, .inl o_trial_f))]) (st1 := [.int (f_X7_place (rPats (p0).toNatClampNeg) (2 : Int32))]) ⟨hx, hb, hml, hown, hts⟩ (c_X7_place l D cI tT (rPats (p0).toNatClampNeg) (2 : Int32) (f_X7_place (rPats (p0).toNatClampNeg) (2 : Int32)) rfl) (va_cwS 2 hts gX7_tries_X7_place rfl rfl rfl (by decide +kernel) ⟨Nat.le_of_ble_eq_true rfl, Nat.le_of_ble_eq_true rfl⟩) hXg hK hP hD hS hA hXs [] rfl rfl  rfl rfl rfl hl.1 rfl (Nat.le_of_ble_eq_true rfl) rfl ⟨Nat.zero_le _, Nat.zero_le _⟩ dX7_tries_244 (fun H locs hP hD hS => ?_)
                                        refine lv_istore (lv' := [(13, .int (f_X7_place (rPats (p0).toNatClampNeg) (2 : Int32))), (4, .int (f_X7_suits o_number o_fields_f p0 (2 : Int32) (o_fields_f ((7 : Int32)).toNatClampNeg) (o_fields_f ((8 : Int32)).toNatClampNeg))), (12, .int (o_fields_f ((8 : Int32)).toNatClampNeg)), (11, .int (o_fields_f ((7 : Int32)).toNatClampNeg)), (10, .int (2 : Int32)), (14, .int x62), (5, .int x56), (9, .int x83), (8, .int x79), (7, .int x75), (6, .int x68), (3, .int (rPats (p0).toNatClampNeg)), (2, .int (o_fields_f ((1 : Int32)).toNatClampNeg)), (0, .ref o), (1, .int p0)]) hx hb dX7_tries_247 hl (by decide) rfl (fun ls hl => ?_)
                                        refine lv_iload hx hb dX7_tries_249 (lv_at hl 6 rfl) ?_
                                        have J89 : ∀ (x88 : Int32) (hb_x88 : x88 = 0 ∨ x88 = 1) (hv_x88 : qv (0) (1) x88) (ls : Array Slot) (H : Heap) (locs : List Loc), f_X7_tries_J89 o_number o_tried o_fields_f o_trial_f p0 x68 x75 x79 x83 x88 = (r_o, o_tried_o, o_trial_f_o) → lv_has ls 15 [(13, .int (f_X7_place (rPats (p0).toNatClampNeg) (2 : Int32))), (4, .int (f_X7_suits o_number o_fields_f p0 (2 : Int32) (o_fields_f ((7 : Int32)).toNatClampNeg) (o_fields_f ((8 : Int32)).toNatClampNeg))), (12, .int (o_fields_f ((8 : Int32)).toNatClampNeg)), (11, .int (o_fields_f ((7 : Int32)).toNatClampNeg)), (10, .int (2 : Int32)), (14, .int x62), (5, .int x56), (9, .int x83), (8, .int x79), (7, .int x75), (6, .int x68), (3, .int (rPats (p0).toNatClampNeg)), (2, .int (o_fields_f ((1 : Int32)).toNatClampNeg)), (0, .ref o), (1, .int p0)] → va_P D vwCl [(o, .inr (6, [.int o_thrown, .int (115 : Int32), .ref o_ops, .ref o_sizes, .ref o_patterns, .ref o_leads, .ref o_codes, .ref o_tells, .ref o_numbers, .ref o_fields, .ref o_found, .long o_number, .long o_foundNumber, .ref o_bytes, .ref o_trial, .ref o_fed, .int o_length, .int o_tried, .int o_given, .int o_at, .int o_pfx, .int o_pfd, .int o_short0])), (o_ops, .inl (cI, 160, .inl rOps)), (o_sizes, .inl (cI, 160, .inl rSizes)), (o_patterns, .inl (cI, 160, .inl rPats)), (o_leads, .inl (cI, 160, .inl rLeads)), (o_codes, .inl (cI, 160, .inl rCodes)), (o_tells, .inl (cI, 160, .inl rTells)), (o_numbers, .inl (cI, 160, .inl rNums)), (o_fields, .inl (cI, 13, .inl o_fields_f)), (o_trial, .inl (cI, 20, .inl o_trial_f))] H → va_D A [(o, .inr (6, [.int o_thrown, .int (115 : Int32), .ref o_ops, .ref o_sizes, .ref o_patterns, .ref o_leads, .ref o_codes, .ref o_tells, .ref o_numbers, .ref o_fields, .ref o_found, .long o_number, .long o_foundNumber, .ref o_bytes, .ref o_trial, .ref o_fed, .int o_length, .int o_tried, .int o_given, .int o_at, .int o_pfx, .int o_pfd, .int o_short0])), (o_ops, .inl (cI, 160, .inl rOps)), (o_sizes, .inl (cI, 160, .inl rSizes)), (o_patterns, .inl (cI, 160, .inl rPats)), (o_leads, .inl (cI, 160, .inl rLeads)), (o_codes, .inl (cI, 160, .inl rCodes)), (o_tells, .inl (cI, 160, .inl rTells)), (o_numbers, .inl (cI, 160, .inl rNums)), (o_fields, .inl (cI, 13, .inl o_fields_f)), (o_trial, .inl (cI, 20, .inl o_trial_f))] → va_S A s.heap H locs → W p l e (qr 3 73) s m args below meth c H locs 0 0 Z (F0 m 265 ls [.int x88]) := by
                                          intro x88 hb_x88 hv_x88 ls H locs E hl hP hD hS
                                          rw [f_X7_tries_J89] at E
                                          refine lv_istore (lv' := [(5, .int x88), (13, .int (f_X7_place (rPats (p0).toNatClampNeg) (2 : Int32))), (4, .int (f_X7_suits o_number o_fields_f p0 (2 : Int32) (o_fields_f ((7 : Int32)).toNatClampNeg) (o_fields_f ((8 : Int32)).toNatClampNeg))), (12, .int (o_fields_f ((8 : Int32)).toNatClampNeg)), (11, .int (o_fields_f ((7 : Int32)).toNatClampNeg)), (10, .int (2 : Int32)), (14, .int x62), (9, .int x83), (8, .int x79), (7, .int x75), (6, .int x68), (3, .int (rPats (p0).toNatClampNeg)), (2, .int (o_fields_f ((1 : Int32)).toNatClampNeg)), (0, .ref o), (1, .int p0)]) hx hb dX7_tries_265 hl (by decide) rfl (fun ls hl => ?_)
                                          refine lv_iload hx hb dX7_tries_267 (lv_at hl 4 rfl) ?_
                                          refine lv_iconst (v := (1 : Int32)) hx hb dX7_tries_269 (by decide) ?_
                                          have J95 : ∀ (x94 : Int32) (hb_x94 : x94 = 0 ∨ x94 = 1) (hv_x94 : qv (0) (1) x94) (ls : Array Slot) (H : Heap) (locs : List Loc), f_X7_tries_J95 o_number o_tried o_fields_f o_trial_f p0 x68 x75 x79 x83 x88 x94 = (r_o, o_tried_o, o_trial_f_o) → lv_has ls 15 [(5, .int x88), (13, .int (f_X7_place (rPats (p0).toNatClampNeg) (2 : Int32))), (4, .int (f_X7_suits o_number o_fields_f p0 (2 : Int32) (o_fields_f ((7 : Int32)).toNatClampNeg) (o_fields_f ((8 : Int32)).toNatClampNeg))), (12, .int (o_fields_f ((8 : Int32)).toNatClampNeg)), (11, .int (o_fields_f ((7 : Int32)).toNatClampNeg)), (10, .int (2 : Int32)), (14, .int x62), (9, .int x83), (8, .int x79), (7, .int x75), (6, .int x68), (3, .int (rPats (p0).toNatClampNeg)), (2, .int (o_fields_f ((1 : Int32)).toNatClampNeg)), (0, .ref o), (1, .int p0)] → va_P D vwCl [(o, .inr (6, [.int o_thrown, .int (115 : Int32), .ref o_ops, .ref o_sizes, .ref o_patterns, .ref o_leads, .ref o_codes, .ref o_tells, .ref o_numbers, .ref o_fields, .ref o_found, .long o_number, .long o_foundNumber, .ref o_bytes, .ref o_trial, .ref o_fed, .int o_length, .int o_tried, .int o_given, .int o_at, .int o_pfx, .int o_pfd, .int o_short0])), (o_ops, .inl (cI, 160, .inl rOps)), (o_sizes, .inl (cI, 160, .inl rSizes)), (o_patterns, .inl (cI, 160, .inl rPats)), (o_leads, .inl (cI, 160, .inl rLeads)), (o_codes, .inl (cI, 160, .inl rCodes)), (o_tells, .inl (cI, 160, .inl rTells)), (o_numbers, .inl (cI, 160, .inl rNums)), (o_fields, .inl (cI, 13, .inl o_fields_f)), (o_trial, .inl (cI, 20, .inl o_trial_f))] H → va_D A [(o, .inr (6, [.int o_thrown, .int (115 : Int32), .ref o_ops, .ref o_sizes, .ref o_patterns, .ref o_leads, .ref o_codes, .ref o_tells, .ref o_numbers, .ref o_fields, .ref o_found, .long o_number, .long o_foundNumber, .ref o_bytes, .ref o_trial, .ref o_fed, .int o_length, .int o_tried, .int o_given, .int o_at, .int o_pfx, .int o_pfd, .int o_short0])), (o_ops, .inl (cI, 160, .inl rOps)), (o_sizes, .inl (cI, 160, .inl rSizes)), (o_patterns, .inl (cI, 160, .inl rPats)), (o_leads, .inl (cI, 160, .inl rLeads)), (o_codes, .inl (cI, 160, .inl rCodes)), (o_tells, .inl (cI, 160, .inl rTells)), (o_numbers, .inl (cI, 160, .inl rNums)), (o_fields, .inl (cI, 13, .inl o_fields_f)), (o_trial, .inl (cI, 20, .inl o_trial_f))] → va_S A s.heap H locs → W p l e (qr 3 73) s m args below meth c H locs 0 0 Z (F0 m 296 ls [.int x94]) := by
                                            intro x94 hb_x94 hv_x94 ls H locs E hl hP hD hS
                                            rw [f_X7_tries_J95] at E
                                            refine lv_istore (lv' := [(14, .int x94), (5, .int x88), (13, .int (f_X7_place (rPats (p0).toNatClampNeg) (2 : Int32))), (4, .int (f_X7_suits o_number o_fields_f p0 (2 : Int32) (o_fields_f ((7 : Int32)).toNatClampNeg) (o_fields_f ((8 : Int32)).toNatClampNeg))), (12, .int (o_fields_f ((8 : Int32)).toNatClampNeg)), (11, .int (o_fields_f ((7 : Int32)).toNatClampNeg)), (10, .int (2 : Int32)), (9, .int x83), (8, .int x79), (7, .int x75), (6, .int x68), (3, .int (rPats (p0).toNatClampNeg)), (2, .int (o_fields_f ((1 : Int32)).toNatClampNeg)), (0, .ref o), (1, .int p0)]) hx hb dX7_tries_296 hl (by decide) rfl (fun ls hl => ?_)
                                            refine lv_iload hx hb dX7_tries_298 (lv_at hl 0 rfl) ?_
                                            have J101 : ∀ (x100 : Int32) (hb_x100 : x100 = 0 ∨ x100 = 1) (hv_x100 : qv (0) (1) x100) (ls : Array Slot) (H : Heap) (locs : List Loc), f_X7_tries_J101 o_number o_tried o_fields_f o_trial_f p0 x75 x79 x83 x88 x94 x100 = (r_o, o_tried_o, o_trial_f_o) → lv_has ls 15 [(14, .int x94), (5, .int x88), (13, .int (f_X7_place (rPats (p0).toNatClampNeg) (2 : Int32))), (4, .int (f_X7_suits o_number o_fields_f p0 (2 : Int32) (o_fields_f ((7 : Int32)).toNatClampNeg) (o_fields_f ((8 : Int32)).toNatClampNeg))), (12, .int (o_fields_f ((8 : Int32)).toNatClampNeg)), (11, .int (o_fields_f ((7 : Int32)).toNatClampNeg)), (10, .int (2 : Int32)), (9, .int x83), (8, .int x79), (7, .int x75), (6, .int x100), (3, .int (rPats (p0).toNatClampNeg)), (2, .int (o_fields_f ((1 : Int32)).toNatClampNeg)), (0, .ref o), (1, .int p0)] → va_P D vwCl [(o, .inr (6, [.int o_thrown, .int (115 : Int32), .ref o_ops, .ref o_sizes, .ref o_patterns, .ref o_leads, .ref o_codes, .ref o_tells, .ref o_numbers, .ref o_fields, .ref o_found, .long o_number, .long o_foundNumber, .ref o_bytes, .ref o_trial, .ref o_fed, .int o_length, .int o_tried, .int o_given, .int o_at, .int o_pfx, .int o_pfd, .int o_short0])), (o_ops, .inl (cI, 160, .inl rOps)), (o_sizes, .inl (cI, 160, .inl rSizes)), (o_patterns, .inl (cI, 160, .inl rPats)), (o_leads, .inl (cI, 160, .inl rLeads)), (o_codes, .inl (cI, 160, .inl rCodes)), (o_tells, .inl (cI, 160, .inl rTells)), (o_numbers, .inl (cI, 160, .inl rNums)), (o_fields, .inl (cI, 13, .inl o_fields_f)), (o_trial, .inl (cI, 20, .inl o_trial_f))] H → va_D A [(o, .inr (6, [.int o_thrown, .int (115 : Int32), .ref o_ops, .ref o_sizes, .ref o_patterns, .ref o_leads, .ref o_codes, .ref o_tells, .ref o_numbers, .ref o_fields, .ref o_found, .long o_number, .long o_foundNumber, .ref o_bytes, .ref o_trial, .ref o_fed, .int o_length, .int o_tried, .int o_given, .int o_at, .int o_pfx, .int o_pfd, .int o_short0])), (o_ops, .inl (cI, 160, .inl rOps)), (o_sizes, .inl (cI, 160, .inl rSizes)), (o_patterns, .inl (cI, 160, .inl rPats)), (o_leads, .inl (cI, 160, .inl rLeads)), (o_codes, .inl (cI, 160, .inl rCodes)), (o_tells, .inl (cI, 160, .inl rTells)), (o_numbers, .inl (cI, 160, .inl rNums)), (o_fields, .inl (cI, 13, .inl o_fields_f)), (o_trial, .inl (cI, 20, .inl o_trial_f))] → va_S A s.heap H locs → W p l e (qr 3 73) s m args below meth c H locs 0 0 Z (F0 m 331 ls []) := by
                                              intro x100 hb_x100 hv_x100 ls H locs E hl hP hD hS
                                              rw [f_X7_tries_J101] at E
                                              refine lv_iload hx hb dX7_tries_331 (lv_at hl 0 rfl) ?_
                                              have J108 : ∀ (x107 : Int32) (ls : Array Slot) (H : Heap) (locs : List Loc), f_X7_tries_J108 o_number o_tried o_fields_f o_trial_f p0 x79 x83 x88 x94 x100 x107 = (r_o, o_tried_o, o_trial_f_o) → lv_has ls 15 [(14, .int x94), (5, .int x88), (13, .int (f_X7_place (rPats (p0).toNatClampNeg) (2 : Int32))), (4, .int (f_X7_suits o_number o_fields_f p0 (2 : Int32) (o_fields_f ((7 : Int32)).toNatClampNeg) (o_fields_f ((8 : Int32)).toNatClampNeg))), (12, .int (o_fields_f ((8 : Int32)).toNatClampNeg)), (11, .int (o_fields_f ((7 : Int32)).toNatClampNeg)), (10, .int (2 : Int32)), (9, .int x83), (8, .int x79), (7, .int x107), (6, .int x100), (3, .int (rPats (p0).toNatClampNeg)), (2, .int (o_fields_f ((1 : Int32)).toNatClampNeg)), (0, .ref o), (1, .int p0)] → va_P D vwCl [(o, .inr (6, [.int o_thrown, .int (115 : Int32), .ref o_ops, .ref o_sizes, .ref o_patterns, .ref o_leads, .ref o_codes, .ref o_tells, .ref o_numbers, .ref o_fields, .ref o_found, .long o_number, .long o_foundNumber, .ref o_bytes, .ref o_trial, .ref o_fed, .int o_length, .int o_tried, .int o_given, .int o_at, .int o_pfx, .int o_pfd, .int o_short0])), (o_ops, .inl (cI, 160, .inl rOps)), (o_sizes, .inl (cI, 160, .inl rSizes)), (o_patterns, .inl (cI, 160, .inl rPats)), (o_leads, .inl (cI, 160, .inl rLeads)), (o_codes, .inl (cI, 160, .inl rCodes)), (o_tells, .inl (cI, 160, .inl rTells)), (o_numbers, .inl (cI, 160, .inl rNums)), (o_fields, .inl (cI, 13, .inl o_fields_f)), (o_trial, .inl (cI, 20, .inl o_trial_f))] H → va_D A [(o, .inr (6, [.int o_thrown, .int (115 : Int32), .ref o_ops, .ref o_sizes, .ref o_patterns, .ref o_leads, .ref o_codes, .ref o_tells, .ref o_numbers, .ref o_fields, .ref o_found, .long o_number, .long o_foundNumber, .ref o_bytes, .ref o_trial, .ref o_fed, .int o_length, .int o_tried, .int o_given, .int o_at, .int o_pfx, .int o_pfd, .int o_short0])), (o_ops, .inl (cI, 160, .inl rOps)), (o_sizes, .inl (cI, 160, .inl rSizes)), (o_patterns, .inl (cI, 160, .inl rPats)), (o_leads, .inl (cI, 160, .inl rLeads)), (o_codes, .inl (cI, 160, .inl rCodes)), (o_tells, .inl (cI, 160, .inl rTells)), (o_numbers, .inl (cI, 160, .inl rNums)), (o_fields, .inl (cI, 13, .inl o_fields_f)), (o_trial, .inl (cI, 20, .inl o_trial_f))] → va_S A s.heap H locs → W p l e (qr 3 73) s m args below meth c H locs 0 0 Z (F0 m 359 ls []) := by
                                                intro x107 ls H locs E hl hP hD hS
                                                rw [f_X7_tries_J108] at E
                                                refine lv_iload hx hb dX7_tries_359 (lv_at hl 0 rfl) ?_
                                                have J112 : ∀ (x111 : Int32) (ls : Array Slot) (H : Heap) (locs : List Loc), f_X7_tries_J112 o_number o_tried o_fields_f o_trial_f p0 x83 x88 x94 x100 x107 x111 = (r_o, o_tried_o, o_trial_f_o) → lv_has ls 15 [(14, .int x94), (5, .int x88), (13, .int (f_X7_place (rPats (p0).toNatClampNeg) (2 : Int32))), (4, .int (f_X7_suits o_number o_fields_f p0 (2 : Int32) (o_fields_f ((7 : Int32)).toNatClampNeg) (o_fields_f ((8 : Int32)).toNatClampNeg))), (12, .int (o_fields_f ((8 : Int32)).toNatClampNeg)), (11, .int (o_fields_f ((7 : Int32)).toNatClampNeg)), (10, .int (2 : Int32)), (9, .int x83), (8, .int x111), (7, .int x107), (6, .int x100), (3, .int (rPats (p0).toNatClampNeg)), (2, .int (o_fields_f ((1 : Int32)).toNatClampNeg)), (0, .ref o), (1, .int p0)] → va_P D vwCl [(o, .inr (6, [.int o_thrown, .int (115 : Int32), .ref o_ops, .ref o_sizes, .ref o_patterns, .ref o_leads, .ref o_codes, .ref o_tells, .ref o_numbers, .ref o_fields, .ref o_found, .long o_number, .long o_foundNumber, .ref o_bytes, .ref o_trial, .ref o_fed, .int o_length, .int o_tried, .int o_given, .int o_at, .int o_pfx, .int o_pfd, .int o_short0])), (o_ops, .inl (cI, 160, .inl rOps)), (o_sizes, .inl (cI, 160, .inl rSizes)), (o_patterns, .inl (cI, 160, .inl rPats)), (o_leads, .inl (cI, 160, .inl rLeads)), (o_codes, .inl (cI, 160, .inl rCodes)), (o_tells, .inl (cI, 160, .inl rTells)), (o_numbers, .inl (cI, 160, .inl rNums)), (o_fields, .inl (cI, 13, .inl o_fields_f)), (o_trial, .inl (cI, 20, .inl o_trial_f))] H → va_D A [(o, .inr (6, [.int o_thrown, .int (115 : Int32), .ref o_ops, .ref o_sizes, .ref o_patterns, .ref o_leads, .ref o_codes, .ref o_tells, .ref o_numbers, .ref o_fields, .ref o_found, .long o_number, .long o_foundNumber, .ref o_bytes, .ref o_trial, .ref o_fed, .int o_length, .int o_tried, .int o_given, .int o_at, .int o_pfx, .int o_pfd, .int o_short0])), (o_ops, .inl (cI, 160, .inl rOps)), (o_sizes, .inl (cI, 160, .inl rSizes)), (o_patterns, .inl (cI, 160, .inl rPats)), (o_leads, .inl (cI, 160, .inl rLeads)), (o_codes, .inl (cI, 160, .inl rCodes)), (o_tells, .inl (cI, 160, .inl rTells)), (o_numbers, .inl (cI, 160, .inl rNums)), (o_fields, .inl (cI, 13, .inl o_fields_f)), (o_trial, .inl (cI, 20, .inl o_trial_f))] → va_S A s.heap H locs → W p l e (qr 3 73) s m args below meth c H locs 0 0 Z (F0 m 377 ls []) := by
                                                  intro x111 ls H locs E hl hP hD hS
                                                  rw [f_X7_tries_J112] at E
                                                  refine lv_iload hx hb dX7_tries_377 (lv_at hl 0 rfl) ?_
                                                  have J116 : ∀ (x115 : Int32) (ls : Array Slot) (H : Heap) (locs : List Loc), f_X7_tries_J116 o_number o_tried o_fields_f o_trial_f p0 x88 x100 x107 x111 x115 = (r_o, o_tried_o, o_trial_f_o) → lv_has ls 15 [(14, .int x94), (5, .int x88), (13, .int (f_X7_place (rPats (p0).toNatClampNeg) (2 : Int32))), (4, .int (f_X7_suits o_number o_fields_f p0 (2 : Int32) (o_fields_f ((7 : Int32)).toNatClampNeg) (o_fields_f ((8 : Int32)).toNatClampNeg))), (12, .int (o_fields_f ((8 : Int32)).toNatClampNeg)), (11, .int (o_fields_f ((7 : Int32)).toNatClampNeg)), (10, .int (2 : Int32)), (9, .int x115), (8, .int x111), (7, .int x107), (6, .int x100), (3, .int (rPats (p0).toNatClampNeg)), (2, .int (o_fields_f ((1 : Int32)).toNatClampNeg)), (0, .ref o), (1, .int p0)] → va_P D vwCl [(o, .inr (6, [.int o_thrown, .int (115 : Int32), .ref o_ops, .ref o_sizes, .ref o_patterns, .ref o_leads, .ref o_codes, .ref o_tells, .ref o_numbers, .ref o_fields, .ref o_found, .long o_number, .long o_foundNumber, .ref o_bytes, .ref o_trial, .ref o_fed, .int o_length, .int o_tried, .int o_given, .int o_at, .int o_pfx, .int o_pfd, .int o_short0])), (o_ops, .inl (cI, 160, .inl rOps)), (o_sizes, .inl (cI, 160, .inl rSizes)), (o_patterns, .inl (cI, 160, .inl rPats)), (o_leads, .inl (cI, 160, .inl rLeads)), (o_codes, .inl (cI, 160, .inl rCodes)), (o_tells, .inl (cI, 160, .inl rTells)), (o_numbers, .inl (cI, 160, .inl rNums)), (o_fields, .inl (cI, 13, .inl o_fields_f)), (o_trial, .inl (cI, 20, .inl o_trial_f))] H → va_D A [(o, .inr (6, [.int o_thrown, .int (115 : Int32), .ref o_ops, .ref o_sizes, .ref o_patterns, .ref o_leads, .ref o_codes, .ref o_tells, .ref o_numbers, .ref o_fields, .ref o_found, .long o_number, .long o_foundNumber, .ref o_bytes, .ref o_trial, .ref o_fed, .int o_length, .int o_tried, .int o_given, .int o_at, .int o_pfx, .int o_pfd, .int o_short0])), (o_ops, .inl (cI, 160, .inl rOps)), (o_sizes, .inl (cI, 160, .inl rSizes)), (o_patterns, .inl (cI, 160, .inl rPats)), (o_leads, .inl (cI, 160, .inl rLeads)), (o_codes, .inl (cI, 160, .inl rCodes)), (o_tells, .inl (cI, 160, .inl rTells)), (o_numbers, .inl (cI, 160, .inl rNums)), (o_fields, .inl (cI, 13, .inl o_fields_f)), (o_trial, .inl (cI, 20, .inl o_trial_f))] → va_S A s.heap H locs → W p l e (qr 3 73) s m args below meth c H locs 0 0 Z (F0 m 395 ls []) := by
                                                    intro x115 ls H locs E hl hP hD hS
                                                    rw [f_X7_tries_J116] at E
                                                    refine lv_iinc (v := (3 : Int32)) (lv' := [(10, .int (3 : Int32)), (14, .int x94), (5, .int x88), (13, .int (f_X7_place (rPats (p0).toNatClampNeg) (2 : Int32))), (4, .int (f_X7_suits o_number o_fields_f p0 (2 : Int32) (o_fields_f ((7 : Int32)).toNatClampNeg) (o_fields_f ((8 : Int32)).toNatClampNeg))), (12, .int (o_fields_f ((8 : Int32)).toNatClampNeg)), (11, .int (o_fields_f ((7 : Int32)).toNatClampNeg)), (9, .int x115), (8, .int x111), (7, .int x107), (6, .int x100), (3, .int (rPats (p0).toNatClampNeg)), (2, .int (o_fields_f ((1 : Int32)).toNatClampNeg)), (0, .ref o), (1, .int p0)]) hx hb dX7_tries_395 hl (k := 6) rfl (by first | rfl | decide) (by decide) rfl (fun ls hl => ?_)
                                                    refine lv_goto (tgt := 191) hx hb dX7_tries_398 (by decide) ?_
                                                    refine lv_iload hx hb dX7_tries_191 (lv_at hl 0 rfl) ?_
                                                    refine lv_iconst (v := (3 : Int32)) hx hb dX7_tries_193 (by decide) ?_
                                                    refine lv_icmp_ge (tgt := 401) hx hb dX7_tries_194 (by decide) (fun _ => ?_) (fun c9 => absurd c9 (by decide))
                                                    exact J124 (3 : Int32) (qv_w (⟨by decide, by decide⟩ : qv (3) (3) (3 : Int32)) (by decide) (by decide)) x115 x111 x107 x100 hb_x100 (qv_w (⟨hv_x100.1, hv_x100.2⟩ : qv (0) (1) x100) (by decide) (by decide)) x88 hb_x88 (qv_w (⟨hv_x88.1, hv_x88.2⟩ : qv (0) (1) x88) (by decide) (by decide)) (f_X7_suits o_number o_fields_f p0 (2 : Int32) (o_fields_f ((7 : Int32)).toNatClampNeg) (o_fields_f ((8 : Int32)).toNatClampNeg)) ls _ _ E (lv_sub hl [0, 7, 8, 9, 10, 2, 4, 11, 12, 13, 14] rfl) hP hD hS
                                                  refine lv_if_eq (tgt := 395) hx hb dX7_tries_379 (by decide) (fun c113 => ?_) (fun c113 => ?_)
                                                  · rw [if_pos c113] at E
                                                    exact J116 x83 ls _ _ E (lv_sub hl [0, 1, 2, 3, 4, 5, 6, 7, 8, 9, 10, 11, 12, 13, 14] rfl) hP hD hS
                                                  · rw [if_neg c113] at E
                                                    refine lv_iload hx hb dX7_tries_382 (lv_at hl 2 rfl) ?_
                                                    refine lv_iconst (v := (1 : Int32)) hx hb dX7_tries_384 (by decide) ?_
                                                    refine lv_icmp_eq (tgt := 395) hx hb dX7_tries_385 (by decide) (fun c114 => ?_) (fun c114 => ?_)
                                                    · rw [if_pos c114] at E
                                                      exact J116 x83 ls _ _ E (lv_sub hl [0, 1, 2, 3, 4, 5, 6, 7, 8, 9, 10, 11, 12, 13, 14] rfl) hP hD hS
                                                    · rw [if_neg c114] at E
                                                      refine lv_iload hx hb dX7_tries_388 (lv_at hl 4 rfl) ?_
                                                      refine lv_bipush (v := (7 : Int32)) hx hb dX7_tries_390 (by decide) ?_
                                                      refine lv_iand hx hb dX7_tries_392 ?_
                                                      refine lv_istore (lv' := [(9, .int ((o_fields_f ((8 : Int32)).toNatClampNeg) &&& (7 : Int32))), (14, .int x94), (5, .int x88), (13, .int (f_X7_place (rPats (p0).toNatClampNeg) (2 : Int32))), (4, .int (f_X7_suits o_number o_fields_f p0 (2 : Int32) (o_fields_f ((7 : Int32)).toNatClampNeg) (o_fields_f ((8 : Int32)).toNatClampNeg))), (12, .int (o_fields_f ((8 : Int32)).toNatClampNeg)), (11, .int (o_fields_f ((7 : Int32)).toNatClampNeg)), (10, .int (2 : Int32)), (8, .int x111), (7, .int x107), (6, .int x100), (3, .int (rPats (p0).toNatClampNeg)), (2, .int (o_fields_f ((1 : Int32)).toNatClampNeg)), (0, .ref o), (1, .int p0)]) hx hb dX7_tries_393 hl (by decide) rfl (fun ls hl => ?_)
                                                      exact J116 ((o_fields_f ((8 : Int32)).toNatClampNeg) &&& (7 : Int32)) ls _ _ E (lv_sub hl [1, 2, 3, 4, 5, 6, 7, 0, 8, 9, 10, 11, 12, 13, 14] rfl) hP hD hS
                                                refine lv_if_eq (tgt := 377) hx hb dX7_tries_361 (by decide) (fun c109 => ?_) (fun c109 => ?_)
                                                · rw [if_pos c109] at E
                                                  exact J112 x79 ls _ _ E (lv_sub hl [0, 1, 2, 3, 4, 5, 6, 7, 8, 9, 10, 11, 12, 13, 14] rfl) hP hD hS
                                                · rw [if_neg c109] at E
                                                  refine lv_iload hx hb dX7_tries_364 (lv_at hl 2 rfl) ?_
                                                  refine lv_iconst (v := (1 : Int32)) hx hb dX7_tries_366 (by decide) ?_
                                                  refine lv_icmp_ne (tgt := 377) hx hb dX7_tries_367 (by decide) (fun c110 => ?_) (fun c110 => ?_)
                                                  · rw [if_neg c110] at E
                                                    exact J112 x79 ls _ _ E (lv_sub hl [0, 1, 2, 3, 4, 5, 6, 7, 8, 9, 10, 11, 12, 13, 14] rfl) hP hD hS
                                                  · rw [if_pos c110] at E
                                                    refine lv_iload hx hb dX7_tries_370 (lv_at hl 4 rfl) ?_
                                                    refine lv_bipush (v := (7 : Int32)) hx hb dX7_tries_372 (by decide) ?_
                                                    refine lv_iand hx hb dX7_tries_374 ?_
                                                    refine lv_istore (lv' := [(8, .int ((o_fields_f ((8 : Int32)).toNatClampNeg) &&& (7 : Int32))), (14, .int x94), (5, .int x88), (13, .int (f_X7_place (rPats (p0).toNatClampNeg) (2 : Int32))), (4, .int (f_X7_suits o_number o_fields_f p0 (2 : Int32) (o_fields_f ((7 : Int32)).toNatClampNeg) (o_fields_f ((8 : Int32)).toNatClampNeg))), (12, .int (o_fields_f ((8 : Int32)).toNatClampNeg)), (11, .int (o_fields_f ((7 : Int32)).toNatClampNeg)), (10, .int (2 : Int32)), (9, .int x83), (7, .int x107), (6, .int x100), (3, .int (rPats (p0).toNatClampNeg)), (2, .int (o_fields_f ((1 : Int32)).toNatClampNeg)), (0, .ref o), (1, .int p0)]) hx hb dX7_tries_375 hl (by decide) rfl (fun ls hl => ?_)
                                                    exact J112 ((o_fields_f ((8 : Int32)).toNatClampNeg) &&& (7 : Int32)) ls _ _ E (lv_sub hl [1, 2, 3, 4, 5, 6, 7, 8, 0, 9, 10, 11, 12, 13, 14] rfl) hP hD hS
                                              refine lv_if_eq (tgt := 359) hx hb dX7_tries_333 (by decide) (fun c102 => ?_) (fun c102 => ?_)
                                              · rw [if_pos c102] at E
                                                exact J108 x75 ls _ _ E (lv_sub hl [0, 1, 2, 3, 4, 5, 6, 7, 8, 9, 10, 11, 12, 13, 14] rfl) hP hD hS
                                              · rw [if_neg c102] at E
                                                refine lv_iload hx hb dX7_tries_336 (lv_at hl 4 rfl) ?_
                                                refine lv_bipush (v := (7 : Int32)) hx hb dX7_tries_338 (by decide) ?_
                                                refine lv_icmp_le (tgt := 359) hx hb dX7_tries_340 (by decide) (fun c103 => ?_) (fun c103 => ?_)
                                                · rw [if_pos c103] at E
                                                  exact J108 x75 ls _ _ E (lv_sub hl [0, 1, 2, 3, 4, 5, 6, 7, 8, 9, 10, 11, 12, 13, 14] rfl) hP hD hS
                                                · rw [if_neg c103] at E
                                                  refine lv_iload hx hb dX7_tries_343 (lv_at hl 9 rfl) ?_
                                                  refine lv_iload hx hb dX7_tries_345 (lv_at hl 2 rfl) ?_
                                                  refine lv_iconst (v := (1 : Int32)) hx hb dX7_tries_347 (by decide) ?_
                                                  have J106 : ∀ (x105 : Int32) (hv_x105 : qv (1) (4) x105) (ls : Array Slot) (H : Heap) (locs : List Loc), f_X7_tries_J106 o_number o_tried o_fields_f o_trial_f p0 x75 x79 x83 x88 x94 x100 x105 = (r_o, o_tried_o, o_trial_f_o) → lv_has ls 15 [(14, .int x94), (5, .int x88), (13, .int (f_X7_place (rPats (p0).toNatClampNeg) (2 : Int32))), (4, .int (f_X7_suits o_number o_fields_f p0 (2 : Int32) (o_fields_f ((7 : Int32)).toNatClampNeg) (o_fields_f ((8 : Int32)).toNatClampNeg))), (12, .int (o_fields_f ((8 : Int32)).toNatClampNeg)), (11, .int (o_fields_f ((7 : Int32)).toNatClampNeg)), (10, .int (2 : Int32)), (9, .int x83), (8, .int x79), (7, .int x75), (6, .int x100), (3, .int (rPats (p0).toNatClampNeg)), (2, .int (o_fields_f ((1 : Int32)).toNatClampNeg)), (0, .ref o), (1, .int p0)] → va_P D vwCl [(o, .inr (6, [.int o_thrown, .int (115 : Int32), .ref o_ops, .ref o_sizes, .ref o_patterns, .ref o_leads, .ref o_codes, .ref o_tells, .ref o_numbers, .ref o_fields, .ref o_found, .long o_number, .long o_foundNumber, .ref o_bytes, .ref o_trial, .ref o_fed, .int o_length, .int o_tried, .int o_given, .int o_at, .int o_pfx, .int o_pfd, .int o_short0])), (o_ops, .inl (cI, 160, .inl rOps)), (o_sizes, .inl (cI, 160, .inl rSizes)), (o_patterns, .inl (cI, 160, .inl rPats)), (o_leads, .inl (cI, 160, .inl rLeads)), (o_codes, .inl (cI, 160, .inl rCodes)), (o_tells, .inl (cI, 160, .inl rTells)), (o_numbers, .inl (cI, 160, .inl rNums)), (o_fields, .inl (cI, 13, .inl o_fields_f)), (o_trial, .inl (cI, 20, .inl o_trial_f))] H → va_D A [(o, .inr (6, [.int o_thrown, .int (115 : Int32), .ref o_ops, .ref o_sizes, .ref o_patterns, .ref o_leads, .ref o_codes, .ref o_tells, .ref o_numbers, .ref o_fields, .ref o_found, .long o_number, .long o_foundNumber, .ref o_bytes, .ref o_trial, .ref o_fed, .int o_length, .int o_tried, .int o_given, .int o_at, .int o_pfx, .int o_pfd, .int o_short0])), (o_ops, .inl (cI, 160, .inl rOps)), (o_sizes, .inl (cI, 160, .inl rSizes)), (o_patterns, .inl (cI, 160, .inl rPats)), (o_leads, .inl (cI, 160, .inl rLeads)), (o_codes, .inl (cI, 160, .inl rCodes)), (o_tells, .inl (cI, 160, .inl rTells)), (o_numbers, .inl (cI, 160, .inl rNums)), (o_fields, .inl (cI, 13, .inl o_fields_f)), (o_trial, .inl (cI, 20, .inl o_trial_f))] → va_S A s.heap H locs → W p l e (qr 3 73) s m args below meth c H locs 0 0 Z (F0 m 356 ls [.int x105, .int x75]) := by
                                                    intro x105 hv_x105 ls H locs E hl hP hD hS
                                                    rw [f_X7_tries_J106] at E
                                                    refine lv_ior hx hb dX7_tries_356 ?_
                                                    refine lv_istore (lv' := [(7, .int (x75 ||| x105)), (14, .int x94), (5, .int x88), (13, .int (f_X7_place (rPats (p0).toNatClampNeg) (2 : Int32))), (4, .int (f_X7_suits o_number o_fields_f p0 (2 : Int32) (o_fields_f ((7 : Int32)).toNatClampNeg) (o_fields_f ((8 : Int32)).toNatClampNeg))), (12, .int (o_fields_f ((8 : Int32)).toNatClampNeg)), (11, .int (o_fields_f ((7 : Int32)).toNatClampNeg)), (10, .int (2 : Int32)), (9, .int x83), (8, .int x79), (6, .int x100), (3, .int (rPats (p0).toNatClampNeg)), (2, .int (o_fields_f ((1 : Int32)).toNatClampNeg)), (0, .ref o), (1, .int p0)]) hx hb dX7_tries_357 hl (by decide) rfl (fun ls hl => ?_)
                                                    exact J108 (x75 ||| x105) ls _ _ E (lv_sub hl [1, 2, 3, 4, 5, 6, 7, 8, 9, 0, 10, 11, 12, 13, 14] rfl) hP hD hS
                                                  refine lv_icmp_ne (tgt := 355) hx hb dX7_tries_348 (by decide) (fun c104 => ?_) (fun c104 => ?_)
                                                  · rw [if_neg c104] at E
                                                    refine lv_iconst (v := (1 : Int32)) hx hb dX7_tries_355 (by decide) ?_
                                                    exact J106 (1 : Int32) (qv_w (⟨by decide, by decide⟩ : qv (1) (1) (1 : Int32)) (by decide) (by decide)) ls _ _ E (lv_sub hl [0, 1, 2, 3, 4, 5, 6, 7, 8, 9, 10, 11, 12, 13, 14] rfl) hP hD hS
                                                  · rw [if_pos c104] at E
                                                    refine lv_iconst (v := (4 : Int32)) hx hb dX7_tries_351 (by decide) ?_
                                                    refine lv_goto (tgt := 356) hx hb dX7_tries_352 (by decide) ?_
                                                    exact J106 (4 : Int32) (qv_w (⟨by decide, by decide⟩ : qv (4) (4) (4 : Int32)) (by decide) (by decide)) ls _ _ E (lv_sub hl [0, 1, 2, 3, 4, 5, 6, 7, 8, 9, 10, 11, 12, 13, 14] rfl) hP hD hS
                                            refine lv_if_eq (tgt := 331) hx hb dX7_tries_300 (by decide) (fun c96 => ?_) (fun c96 => ?_)
                                            · rw [if_pos c96] at E
                                              exact J101 x68 hb_x68 (qv_w (⟨hv_x68.1, hv_x68.2⟩ : qv (0) (1) x68) (by decide) (by decide)) ls _ _ E (lv_sub hl [0, 1, 2, 3, 4, 5, 6, 7, 8, 9, 10, 11, 12, 13, 14] rfl) hP hD hS
                                            · rw [if_neg c96] at E
                                              refine lv_aload_n hx hb dX7_tries_303 rfl (lv_at hl 13 rfl) ?_
                                              refine lv_iload_n hx hb dX7_tries_304 rfl (lv_at hl 14 rfl) ?_
                                              refine lv_iload hx hb dX7_tries_305 (lv_at hl 2 rfl) ?_
                                              refine lv_iload_n hx hb dX7_tries_307 rfl (lv_at hl 12 rfl) ?_
                                              refine qw_callV (As := [.int p0, .int (f_X7_place (rPats (p0).toNatClampNeg) (2 : Int32)), .int (o_fields_f ((1 : Int32)).toNatClampNeg)]) (rest := []) (ws' := [(o, .inr (6, [.int o_thrown, .int (115 : Int32), .ref o_ops, .ref o_sizes, .ref o_patterns, .ref o_leads, .ref o_codes, .ref o_tells, .ref o_numbers, .ref o_fields, .ref o_found, .long o_number, .long o_foundNumber, .ref o_bytes, .ref o_trial, .ref o_fed, .int o_length, .int o_tried, .int o_given, .int o_at, .int o_pfx, .int o_pfd, .int o_short0])), (o_ops, .inl (cI, 160, .inl rOps)), (o_sizes, .inl (cI, 160, .inl rSizes)), (o_patterns, .inl (cI, 160, .inl rPats)), (o_leads, .inl (cI, 160, .inl rLeads)), (o_codes, .inl (cI, 160, .inl rCodes)), (o_tells, .inl (cI, 160, .inl rTells)), (o_numbers, .inl (cI, 160, .inl rNums)), (o_fields, .inl (cI, 13, .inl o_fields_f)), (o_trial, .inl (cI, 20, .inl o_trial_f))]) (st1 := [.int (f_X7_width p0 (f_X7_place (rPats (p0).toNatClampNeg) (2 : Int32)) (o_fields_f ((1 : Int32)).toNatClampNeg))]) ⟨hx, hb, hml, hown, hts⟩ (c_X7_width l D cI tT o o_ops o_sizes o_patterns o_leads o_codes o_tells o_numbers o_fields o_found o_bytes o_trial o_fed o_thrown o_number o_foundNumber o_length o_tried o_given o_at o_pfx o_pfd o_short0 p0 (f_X7_place (rPats (p0).toNatClampNeg) (2 : Int32)) (o_fields_f ((1 : Int32)).toNatClampNeg) (qv_w (⟨hv_p0.1, hv_p0.2⟩ : qv (0) (114) p0) (by decide) (by decide) : qv (0) (114) p0) (f_X7_width p0 (f_X7_place (rPats (p0).toNatClampNeg) (2 : Int32)) (o_fields_f ((1 : Int32)).toNatClampNeg)) rfl) (cwV 3 hts gX7_tries_X7_width rfl rfl rfl (by decide +kernel) ⟨Nat.le_of_ble_eq_true rfl, Nat.le_of_ble_eq_true rfl⟩) hXg hK hP hD hS hA hXs [0, 1] rfl rfl  rfl rfl rfl rfl rfl rfl hl.1 rfl (Nat.le_of_ble_eq_true rfl) rfl ⟨Nat.zero_le _, Nat.zero_le _⟩ dX7_tries_308 (fun H locs hP hD hS => ?_)
                                              refine lv_iconst (v := (1 : Int32)) hx hb dX7_tries_311 (by decide) ?_
                                              refine lv_icmp_ne (tgt := 331) hx hb dX7_tries_312 (by decide) (fun c97 => ?_) (fun c97 => ?_)
                                              · rw [if_neg c97] at E
                                                exact J101 x68 hb_x68 (qv_w (⟨hv_x68.1, hv_x68.2⟩ : qv (0) (1) x68) (by decide) (by decide)) ls _ _ E (lv_sub hl [0, 1, 2, 3, 4, 5, 6, 7, 8, 9, 10, 11, 12, 13, 14] rfl) hP hD hS
                                              · rw [if_pos c97] at E
                                                refine lv_iload hx hb dX7_tries_315 (lv_at hl 4 rfl) ?_
                                                refine lv_iconst (v := (3 : Int32)) hx hb dX7_tries_317 (by decide) ?_
                                                refine lv_icmp_le (tgt := 331) hx hb dX7_tries_318 (by decide) (fun c98 => ?_) (fun c98 => ?_)
                                                · rw [if_pos c98] at E
                                                  exact J101 x68 hb_x68 (qv_w (⟨hv_x68.1, hv_x68.2⟩ : qv (0) (1) x68) (by decide) (by decide)) ls _ _ E (lv_sub hl [0, 1, 2, 3, 4, 5, 6, 7, 8, 9, 10, 11, 12, 13, 14] rfl) hP hD hS
                                                · rw [if_neg c98] at E
                                                  refine lv_iload hx hb dX7_tries_321 (lv_at hl 4 rfl) ?_
                                                  refine lv_bipush (v := (8 : Int32)) hx hb dX7_tries_323 (by decide) ?_
                                                  refine lv_icmp_ge (tgt := 331) hx hb dX7_tries_325 (by decide) (fun c99 => ?_) (fun c99 => ?_)
                                                  · rw [if_pos c99] at E
                                                    exact J101 x68 hb_x68 (qv_w (⟨hv_x68.1, hv_x68.2⟩ : qv (0) (1) x68) (by decide) (by decide)) ls _ _ E (lv_sub hl [0, 1, 2, 3, 4, 5, 6, 7, 8, 9, 10, 11, 12, 13, 14] rfl) hP hD hS
                                                  · rw [if_neg c99] at E
                                                    refine lv_iconst (v := (1 : Int32)) hx hb dX7_tries_328 (by decide) ?_
                                                    refine lv_istore (lv' := [(6, .int (1 : Int32)), (14, .int x94), (5, .int x88), (13, .int (f_X7_place (rPats (p0).toNatClampNeg) (2 : Int32))), (4, .int (f_X7_suits o_number o_fields_f p0 (2 : Int32) (o_fields_f ((7 : Int32)).toNatClampNeg) (o_fields_f ((8 : Int32)).toNatClampNeg))), (12, .int (o_fields_f ((8 : Int32)).toNatClampNeg)), (11, .int (o_fields_f ((7 : Int32)).toNatClampNeg)), (10, .int (2 : Int32)), (9, .int x83), (8, .int x79), (7, .int x75), (3, .int (rPats (p0).toNatClampNeg)), (2, .int (o_fields_f ((1 : Int32)).toNatClampNeg)), (0, .ref o), (1, .int p0)]) hx hb dX7_tries_329 hl (by decide) rfl (fun ls hl => ?_)
                                                    exact J101 (1 : Int32) (Or.inr rfl) (qv_w (⟨by decide, by decide⟩ : qv (1) (1) (1 : Int32)) (by decide) (by decide)) ls _ _ E (lv_sub hl [1, 2, 3, 4, 5, 6, 7, 8, 9, 10, 0, 11, 12, 13, 14] rfl) hP hD hS
                                          refine lv_icmp_ne (tgt := 295) hx hb dX7_tries_270 (by decide) (fun c90 => ?_) (fun c90 => ?_)
                                          · rw [if_neg c90] at E
                                            refine lv_iconst (v := (0 : Int32)) hx hb dX7_tries_295 (by decide) ?_
                                            exact J95 (0 : Int32) (Or.inl rfl) (qv_w (⟨by decide, by decide⟩ : qv (0) (0) (0 : Int32)) (by decide) (by decide)) ls _ _ E (lv_sub hl [0, 1, 2, 3, 4, 5, 6, 7, 8, 9, 10, 11, 12, 13, 14] rfl) hP hD hS
                                          · rw [if_pos c90] at E
                                            refine lv_iload hx hb dX7_tries_273 (lv_at hl 1 rfl) ?_
                                            refine lv_iconst (v := (1 : Int32)) hx hb dX7_tries_275 (by decide) ?_
                                            refine lv_icmp_eq (tgt := 291) hx hb dX7_tries_276 (by decide) (fun c91 => ?_) (fun c91 => ?_)
                                            · rw [if_pos c91] at E
                                              refine lv_iconst (v := (1 : Int32)) hx hb dX7_tries_291 (by decide) ?_
                                              refine lv_goto (tgt := 296) hx hb dX7_tries_292 (by decide) ?_
                                              exact J95 (1 : Int32) (Or.inr rfl) (qv_w (⟨by decide, by decide⟩ : qv (1) (1) (1 : Int32)) (by decide) (by decide)) ls _ _ E (lv_sub hl [0, 1, 2, 3, 4, 5, 6, 7, 8, 9, 10, 11, 12, 13, 14] rfl) hP hD hS
                                            · rw [if_neg c91] at E
                                              refine lv_iload hx hb dX7_tries_279 (lv_at hl 1 rfl) ?_
                                              refine lv_iconst (v := (2 : Int32)) hx hb dX7_tries_281 (by decide) ?_
                                              refine lv_icmp_eq (tgt := 291) hx hb dX7_tries_282 (by decide) (fun c92 => ?_) (fun c92 => ?_)
                                              · rw [if_pos c92] at E
                                                refine lv_iconst (v := (1 : Int32)) hx hb dX7_tries_291 (by decide) ?_
                                                refine lv_goto (tgt := 296) hx hb dX7_tries_292 (by decide) ?_
                                                exact J95 (1 : Int32) (Or.inr rfl) (qv_w (⟨by decide, by decide⟩ : qv (1) (1) (1 : Int32)) (by decide) (by decide)) ls _ _ E (lv_sub hl [0, 1, 2, 3, 4, 5, 6, 7, 8, 9, 10, 11, 12, 13, 14] rfl) hP hD hS
                                              · rw [if_neg c92] at E
                                                refine lv_iload hx hb dX7_tries_285 (lv_at hl 1 rfl) ?_
                                                refine lv_iconst (v := (5 : Int32)) hx hb dX7_tries_287 (by decide) ?_
                                                refine lv_icmp_ne (tgt := 295) hx hb dX7_tries_288 (by decide) (fun c93 => ?_) (fun c93 => ?_)
                                                · rw [if_neg c93] at E
                                                  refine lv_iconst (v := (0 : Int32)) hx hb dX7_tries_295 (by decide) ?_
                                                  exact J95 (0 : Int32) (Or.inl rfl) (qv_w (⟨by decide, by decide⟩ : qv (0) (0) (0 : Int32)) (by decide) (by decide)) ls _ _ E (lv_sub hl [0, 1, 2, 3, 4, 5, 6, 7, 8, 9, 10, 11, 12, 13, 14] rfl) hP hD hS
                                                · rw [if_pos c93] at E
                                                  refine lv_iconst (v := (1 : Int32)) hx hb dX7_tries_291 (by decide) ?_
                                                  refine lv_goto (tgt := 296) hx hb dX7_tries_292 (by decide) ?_
                                                  exact J95 (1 : Int32) (Or.inr rfl) (qv_w (⟨by decide, by decide⟩ : qv (1) (1) (1 : Int32)) (by decide) (by decide)) ls _ _ E (lv_sub hl [0, 1, 2, 3, 4, 5, 6, 7, 8, 9, 10, 11, 12, 13, 14] rfl) hP hD hS
                                        refine lv_if_ne (tgt := 260) hx hb dX7_tries_251 (by decide) (fun c86 => ?_) (fun c86 => ?_)
                                        · rw [if_neg c86] at E
                                          refine lv_iconst (v := (1 : Int32)) hx hb dX7_tries_260 (by decide) ?_
                                          refine lv_goto (tgt := 265) hx hb dX7_tries_261 (by decide) ?_
                                          exact J89 (1 : Int32) (Or.inr rfl) (qv_w (⟨by decide, by decide⟩ : qv (1) (1) (1 : Int32)) (by decide) (by decide)) ls _ _ E (lv_sub hl [0, 1, 2, 3, 4, 5, 6, 7, 8, 9, 10, 11, 12, 13, 14] rfl) hP hD hS
                                        · rw [if_pos c86] at E
                                          refine lv_iload hx hb dX7_tries_254 (lv_at hl 3 rfl) ?_
                                          refine lv_iconst (v := (2 : Int32)) hx hb dX7_tries_256 (by decide) ?_
                                          refine lv_icmp_ne (tgt := 264) hx hb dX7_tries_257 (by decide) (fun c87 => ?_) (fun c87 => ?_)
                                          · rw [if_neg c87] at E
                                            refine lv_iconst (v := (0 : Int32)) hx hb dX7_tries_264 (by decide) ?_
                                            exact J89 (0 : Int32) (Or.inl rfl) (qv_w (⟨by decide, by decide⟩ : qv (0) (0) (0 : Int32)) (by decide) (by decide)) ls _ _ E (lv_sub hl [0, 1, 2, 3, 4, 5, 6, 7, 8, 9, 10, 11, 12, 13, 14] rfl) hP hD hS
                                          · rw [if_pos c87] at E
                                            refine lv_iconst (v := (1 : Int32)) hx hb dX7_tries_260 (by decide) ?_
                                            refine lv_goto (tgt := 265) hx hb dX7_tries_261 (by decide) ?_
                                            exact J89 (1 : Int32) (Or.inr rfl) (qv_w (⟨by decide, by decide⟩ : qv (1) (1) (1 : Int32)) (by decide) (by decide)) ls _ _ E (lv_sub hl [0, 1, 2, 3, 4, 5, 6, 7, 8, 9, 10, 11, 12, 13, 14] rfl) hP hD hS
                                    refine lv_if_eq (tgt := 395) hx hb dX7_tries_379 (by decide) (fun c81 => ?_) (fun c81 => ?_)
                                    · rw [if_pos c81] at E
                                      exact J84 x51 ls _ _ E (lv_sub hl [0, 1, 2, 3, 4, 5, 6, 7, 8, 9, 10, 11, 12, 13, 14] rfl) hP hD hS
                                    · rw [if_neg c81] at E
                                      refine lv_iload hx hb dX7_tries_382 (lv_at hl 2 rfl) ?_
                                      refine lv_iconst (v := (1 : Int32)) hx hb dX7_tries_384 (by decide) ?_
                                      refine lv_icmp_eq (tgt := 395) hx hb dX7_tries_385 (by decide) (fun c82 => ?_) (fun c82 => ?_)
                                      · rw [if_pos c82] at E
                                        exact J84 x51 ls _ _ E (lv_sub hl [0, 1, 2, 3, 4, 5, 6, 7, 8, 9, 10, 11, 12, 13, 14] rfl) hP hD hS
                                      · rw [if_neg c82] at E
                                        refine lv_iload hx hb dX7_tries_388 (lv_at hl 4 rfl) ?_
                                        refine lv_bipush (v := (7 : Int32)) hx hb dX7_tries_390 (by decide) ?_
                                        refine lv_iand hx hb dX7_tries_392 ?_
                                        refine lv_istore (lv' := [(9, .int ((o_fields_f ((6 : Int32)).toNatClampNeg) &&& (7 : Int32))), (14, .int x62), (5, .int x56), (13, .int (f_X7_place (rPats (p0).toNatClampNeg) (1 : Int32))), (4, .int (f_X7_suits o_number o_fields_f p0 (1 : Int32) (o_fields_f ((5 : Int32)).toNatClampNeg) (o_fields_f ((6 : Int32)).toNatClampNeg))), (12, .int (o_fields_f ((6 : Int32)).toNatClampNeg)), (11, .int (o_fields_f ((5 : Int32)).toNatClampNeg)), (10, .int (1 : Int32)), (8, .int x79), (7, .int x75), (6, .int x68), (3, .int (rPats (p0).toNatClampNeg)), (2, .int (o_fields_f ((1 : Int32)).toNatClampNeg)), (0, .ref o), (1, .int p0)]) hx hb dX7_tries_393 hl (by decide) rfl (fun ls hl => ?_)
                                        exact J84 ((o_fields_f ((6 : Int32)).toNatClampNeg) &&& (7 : Int32)) ls _ _ E (lv_sub hl [1, 2, 3, 4, 5, 6, 7, 0, 8, 9, 10, 11, 12, 13, 14] rfl) hP hD hS
                                  refine lv_if_eq (tgt := 377) hx hb dX7_tries_361 (by decide) (fun c77 => ?_) (fun c77 => ?_)
                                  · rw [if_pos c77] at E
                                    exact J80 x47 ls _ _ E (lv_sub hl [0, 1, 2, 3, 4, 5, 6, 7, 8, 9, 10, 11, 12, 13, 14] rfl) hP hD hS
                                  · rw [if_neg c77] at E
                                    refine lv_iload hx hb dX7_tries_364 (lv_at hl 2 rfl) ?_
                                    refine lv_iconst (v := (1 : Int32)) hx hb dX7_tries_366 (by decide) ?_
                                    refine lv_icmp_ne (tgt := 377) hx hb dX7_tries_367 (by decide) (fun c78 => ?_) (fun c78 => ?_)
                                    · rw [if_neg c78] at E
                                      exact J80 x47 ls _ _ E (lv_sub hl [0, 1, 2, 3, 4, 5, 6, 7, 8, 9, 10, 11, 12, 13, 14] rfl) hP hD hS
                                    · rw [if_pos c78] at E
                                      refine lv_iload hx hb dX7_tries_370 (lv_at hl 4 rfl) ?_
                                      refine lv_bipush (v := (7 : Int32)) hx hb dX7_tries_372 (by decide) ?_
                                      refine lv_iand hx hb dX7_tries_374 ?_
                                      refine lv_istore (lv' := [(8, .int ((o_fields_f ((6 : Int32)).toNatClampNeg) &&& (7 : Int32))), (14, .int x62), (5, .int x56), (13, .int (f_X7_place (rPats (p0).toNatClampNeg) (1 : Int32))), (4, .int (f_X7_suits o_number o_fields_f p0 (1 : Int32) (o_fields_f ((5 : Int32)).toNatClampNeg) (o_fields_f ((6 : Int32)).toNatClampNeg))), (12, .int (o_fields_f ((6 : Int32)).toNatClampNeg)), (11, .int (o_fields_f ((5 : Int32)).toNatClampNeg)), (10, .int (1 : Int32)), (9, .int x51), (7, .int x75), (6, .int x68), (3, .int (rPats (p0).toNatClampNeg)), (2, .int (o_fields_f ((1 : Int32)).toNatClampNeg)), (0, .ref o), (1, .int p0)]) hx hb dX7_tries_375 hl (by decide) rfl (fun ls hl => ?_)
                                      exact J80 ((o_fields_f ((6 : Int32)).toNatClampNeg) &&& (7 : Int32)) ls _ _ E (lv_sub hl [1, 2, 3, 4, 5, 6, 7, 8, 0, 9, 10, 11, 12, 13, 14] rfl) hP hD hS
                                refine lv_if_eq (tgt := 359) hx hb dX7_tries_333 (by decide) (fun c70 => ?_) (fun c70 => ?_)
                                · rw [if_pos c70] at E
                                  exact J76 x43 ls _ _ E (lv_sub hl [0, 1, 2, 3, 4, 5, 6, 7, 8, 9, 10, 11, 12, 13, 14] rfl) hP hD hS
                                · rw [if_neg c70] at E
                                  refine lv_iload hx hb dX7_tries_336 (lv_at hl 4 rfl) ?_
                                  refine lv_bipush (v := (7 : Int32)) hx hb dX7_tries_338 (by decide) ?_
                                  refine lv_icmp_le (tgt := 359) hx hb dX7_tries_340 (by decide) (fun c71 => ?_) (fun c71 => ?_)
                                  · rw [if_pos c71] at E
                                    exact J76 x43 ls _ _ E (lv_sub hl [0, 1, 2, 3, 4, 5, 6, 7, 8, 9, 10, 11, 12, 13, 14] rfl) hP hD hS
                                  · rw [if_neg c71] at E
                                    refine lv_iload hx hb dX7_tries_343 (lv_at hl 9 rfl) ?_
                                    refine lv_iload hx hb dX7_tries_345 (lv_at hl 2 rfl) ?_
                                    refine lv_iconst (v := (1 : Int32)) hx hb dX7_tries_347 (by decide) ?_
                                    have J74 : ∀ (x73 : Int32) (hv_x73 : qv (1) (4) x73) (ls : Array Slot) (H : Heap) (locs : List Loc), f_X7_tries_J74 o_number o_tried o_fields_f o_trial_f p0 x43 x47 x51 x56 x62 x68 x73 = (r_o, o_tried_o, o_trial_f_o) → lv_has ls 15 [(14, .int x62), (5, .int x56), (13, .int (f_X7_place (rPats (p0).toNatClampNeg) (1 : Int32))), (4, .int (f_X7_suits o_number o_fields_f p0 (1 : Int32) (o_fields_f ((5 : Int32)).toNatClampNeg) (o_fields_f ((6 : Int32)).toNatClampNeg))), (12, .int (o_fields_f ((6 : Int32)).toNatClampNeg)), (11, .int (o_fields_f ((5 : Int32)).toNatClampNeg)), (10, .int (1 : Int32)), (9, .int x51), (8, .int x47), (7, .int x43), (6, .int x68), (3, .int (rPats (p0).toNatClampNeg)), (2, .int (o_fields_f ((1 : Int32)).toNatClampNeg)), (0, .ref o), (1, .int p0)] → va_P D vwCl [(o, .inr (6, [.int o_thrown, .int (115 : Int32), .ref o_ops, .ref o_sizes, .ref o_patterns, .ref o_leads, .ref o_codes, .ref o_tells, .ref o_numbers, .ref o_fields, .ref o_found, .long o_number, .long o_foundNumber, .ref o_bytes, .ref o_trial, .ref o_fed, .int o_length, .int o_tried, .int o_given, .int o_at, .int o_pfx, .int o_pfd, .int o_short0])), (o_ops, .inl (cI, 160, .inl rOps)), (o_sizes, .inl (cI, 160, .inl rSizes)), (o_patterns, .inl (cI, 160, .inl rPats)), (o_leads, .inl (cI, 160, .inl rLeads)), (o_codes, .inl (cI, 160, .inl rCodes)), (o_tells, .inl (cI, 160, .inl rTells)), (o_numbers, .inl (cI, 160, .inl rNums)), (o_fields, .inl (cI, 13, .inl o_fields_f)), (o_trial, .inl (cI, 20, .inl o_trial_f))] H → va_D A [(o, .inr (6, [.int o_thrown, .int (115 : Int32), .ref o_ops, .ref o_sizes, .ref o_patterns, .ref o_leads, .ref o_codes, .ref o_tells, .ref o_numbers, .ref o_fields, .ref o_found, .long o_number, .long o_foundNumber, .ref o_bytes, .ref o_trial, .ref o_fed, .int o_length, .int o_tried, .int o_given, .int o_at, .int o_pfx, .int o_pfd, .int o_short0])), (o_ops, .inl (cI, 160, .inl rOps)), (o_sizes, .inl (cI, 160, .inl rSizes)), (o_patterns, .inl (cI, 160, .inl rPats)), (o_leads, .inl (cI, 160, .inl rLeads)), (o_codes, .inl (cI, 160, .inl rCodes)), (o_tells, .inl (cI, 160, .inl rTells)), (o_numbers, .inl (cI, 160, .inl rNums)), (o_fields, .inl (cI, 13, .inl o_fields_f)), (o_trial, .inl (cI, 20, .inl o_trial_f))] → va_S A s.heap H locs → W p l e (qr 3 73) s m args below meth c H locs 0 0 Z (F0 m 356 ls [.int x73, .int x43]) := by
                                      intro x73 hv_x73 ls H locs E hl hP hD hS
                                      rw [f_X7_tries_J74] at E
                                      refine lv_ior hx hb dX7_tries_356 ?_
                                      refine lv_istore (lv' := [(7, .int (x43 ||| x73)), (14, .int x62), (5, .int x56), (13, .int (f_X7_place (rPats (p0).toNatClampNeg) (1 : Int32))), (4, .int (f_X7_suits o_number o_fields_f p0 (1 : Int32) (o_fields_f ((5 : Int32)).toNatClampNeg) (o_fields_f ((6 : Int32)).toNatClampNeg))), (12, .int (o_fields_f ((6 : Int32)).toNatClampNeg)), (11, .int (o_fields_f ((5 : Int32)).toNatClampNeg)), (10, .int (1 : Int32)), (9, .int x51), (8, .int x47), (6, .int x68), (3, .int (rPats (p0).toNatClampNeg)), (2, .int (o_fields_f ((1 : Int32)).toNatClampNeg)), (0, .ref o), (1, .int p0)]) hx hb dX7_tries_357 hl (by decide) rfl (fun ls hl => ?_)
                                      exact J76 (x43 ||| x73) ls _ _ E (lv_sub hl [1, 2, 3, 4, 5, 6, 7, 8, 9, 0, 10, 11, 12, 13, 14] rfl) hP hD hS
                                    refine lv_icmp_ne (tgt := 355) hx hb dX7_tries_348 (by decide) (fun c72 => ?_) (fun c72 => ?_)
                                    · rw [if_neg c72] at E
                                      refine lv_iconst (v := (1 : Int32)) hx hb dX7_tries_355 (by decide) ?_
                                      exact J74 (1 : Int32) (qv_w (⟨by decide, by decide⟩ : qv (1) (1) (1 : Int32)) (by decide) (by decide)) ls _ _ E (lv_sub hl [0, 1, 2, 3, 4, 5, 6, 7, 8, 9, 10, 11, 12, 13, 14] rfl) hP hD hS
                                    · rw [if_pos c72] at E
                                      refine lv_iconst (v := (4 : Int32)) hx hb dX7_tries_351 (by decide) ?_
                                      refine lv_goto (tgt := 356) hx hb dX7_tries_352 (by decide) ?_
                                      exact J74 (4 : Int32) (qv_w (⟨by decide, by decide⟩ : qv (4) (4) (4 : Int32)) (by decide) (by decide)) ls _ _ E (lv_sub hl [0, 1, 2, 3, 4, 5, 6, 7, 8, 9, 10, 11, 12, 13, 14] rfl) hP hD hS
                              refine lv_if_eq (tgt := 331) hx hb dX7_tries_300 (by decide) (fun c64 => ?_) (fun c64 => ?_)
                              · rw [if_pos c64] at E
                                exact J69 x36 hb_x36 (qv_w (⟨hv_x36.1, hv_x36.2⟩ : qv (0) (1) x36) (by decide) (by decide)) ls _ _ E (lv_sub hl [0, 1, 2, 3, 4, 5, 6, 7, 8, 9, 10, 11, 12, 13, 14] rfl) hP hD hS
                              · rw [if_neg c64] at E
                                refine lv_aload_n hx hb dX7_tries_303 rfl (lv_at hl 13 rfl) ?_
                                refine lv_iload_n hx hb dX7_tries_304 rfl (lv_at hl 14 rfl) ?_
                                refine lv_iload hx hb dX7_tries_305 (lv_at hl 2 rfl) ?_
                                refine lv_iload_n hx hb dX7_tries_307 rfl (lv_at hl 12 rfl) ?_
                                refine qw_callV (As := [.int p0, .int (f_X7_place (rPats (p0).toNatClampNeg) (1 : Int32)), .int (o_fields_f ((1 : Int32)).toNatClampNeg)]) (rest := []) (ws' := [(o, .inr (6, [.int o_thrown, .int (115 : Int32), .ref o_ops, .ref o_sizes, .ref o_patterns, .ref o_leads, .ref o_codes, .ref o_tells, .ref o_numbers, .ref o_fields, .ref o_found, .long o_number, .long o_foundNumber, .ref o_bytes, .ref o_trial, .ref o_fed, .int o_length, .int o_tried, .int o_given, .int o_at, .int o_pfx, .int o_pfd, .int o_short0])), (o_ops, .inl (cI, 160, .inl rOps)), (o_sizes, .inl (cI, 160, .inl rSizes)), (o_patterns, .inl (cI, 160, .inl rPats)), (o_leads, .inl (cI, 160, .inl rLeads)), (o_codes, .inl (cI, 160, .inl rCodes)), (o_tells, .inl (cI, 160, .inl rTells)), (o_numbers, .inl (cI, 160, .inl rNums)), (o_fields, .inl (cI, 13, .inl o_fields_f)), (o_trial, .inl (cI, 20, .inl o_trial_f))]) (st1 := [.int (f_X7_width p0 (f_X7_place (rPats (p0).toNatClampNeg) (1 : Int32)) (o_fields_f ((1 : Int32)).toNatClampNeg))]) ⟨hx, hb, hml, hown, hts⟩ (c_X7_width l D cI tT o o_ops o_sizes o_patterns o_leads o_codes o_tells o_numbers o_fields o_found o_bytes o_trial o_fed o_thrown o_number o_foundNumber o_length o_tried o_given o_at o_pfx o_pfd o_short0 p0 (f_X7_place (rPats (p0).toNatClampNeg) (1 : Int32)) (o_fields_f ((1 : Int32)).toNatClampNeg) (qv_w (⟨hv_p0.1, hv_p0.2⟩ : qv (0) (114) p0) (by decide) (by decide) : qv (0) (114) p0) (f_X7_width p0 (f_X7_place (rPats (p0).toNatClampNeg) (1 : Int32)) (o_fields_f ((1 : Int32)).toNatClampNeg)) rfl) (cwV 3 hts gX7_tries_X7_width rfl rfl rfl (by decide +kernel) ⟨Nat.le_of_ble_eq_true rfl, Nat.le_of_ble_eq_true rfl⟩) hXg hK hP hD hS hA hXs [0, 1] rfl rfl  rfl rfl rfl rfl rfl rfl hl.1 rfl (Nat.le_of_ble_eq_true rfl) rfl ⟨Nat.zero_le _, Nat.zero_le _⟩ dX7_tries_308 (fun H locs hP hD hS => ?_)
                                refine lv_iconst (v := (1 : Int32)) hx hb dX7_tries_311 (by decide) ?_
                                refine lv_icmp_ne (tgt := 331) hx hb dX7_tries_312 (by decide) (fun c65 => ?_) (fun c65 => ?_)
                                · rw [if_neg c65] at E
                                  exact J69 x36 hb_x36 (qv_w (⟨hv_x36.1, hv_x36.2⟩ : qv (0) (1) x36) (by decide) (by decide)) ls _ _ E (lv_sub hl [0, 1, 2, 3, 4, 5, 6, 7, 8, 9, 10, 11, 12, 13, 14] rfl) hP hD hS
                                · rw [if_pos c65] at E
                                  refine lv_iload hx hb dX7_tries_315 (lv_at hl 4 rfl) ?_
                                  refine lv_iconst (v := (3 : Int32)) hx hb dX7_tries_317 (by decide) ?_
                                  refine lv_icmp_le (tgt := 331) hx hb dX7_tries_318 (by decide) (fun c66 => ?_) (fun c66 => ?_)
                                  · rw [if_pos c66] at E
                                    exact J69 x36 hb_x36 (qv_w (⟨hv_x36.1, hv_x36.2⟩ : qv (0) (1) x36) (by decide) (by decide)) ls _ _ E (lv_sub hl [0, 1, 2, 3, 4, 5, 6, 7, 8, 9, 10, 11, 12, 13, 14] rfl) hP hD hS
                                  · rw [if_neg c66] at E
                                    refine lv_iload hx hb dX7_tries_321 (lv_at hl 4 rfl) ?_
                                    refine lv_bipush (v := (8 : Int32)) hx hb dX7_tries_323 (by decide) ?_
                                    refine lv_icmp_ge (tgt := 331) hx hb dX7_tries_325 (by decide) (fun c67 => ?_) (fun c67 => ?_)
                                    · rw [if_pos c67] at E
                                      exact J69 x36 hb_x36 (qv_w (⟨hv_x36.1, hv_x36.2⟩ : qv (0) (1) x36) (by decide) (by decide)) ls _ _ E (lv_sub hl [0, 1, 2, 3, 4, 5, 6, 7, 8, 9, 10, 11, 12, 13, 14] rfl) hP hD hS
                                    · rw [if_neg c67] at E
                                      refine lv_iconst (v := (1 : Int32)) hx hb dX7_tries_328 (by decide) ?_
                                      refine lv_istore (lv' := [(6, .int (1 : Int32)), (14, .int x62), (5, .int x56), (13, .int (f_X7_place (rPats (p0).toNatClampNeg) (1 : Int32))), (4, .int (f_X7_suits o_number o_fields_f p0 (1 : Int32) (o_fields_f ((5 : Int32)).toNatClampNeg) (o_fields_f ((6 : Int32)).toNatClampNeg))), (12, .int (o_fields_f ((6 : Int32)).toNatClampNeg)), (11, .int (o_fields_f ((5 : Int32)).toNatClampNeg)), (10, .int (1 : Int32)), (9, .int x51), (8, .int x47), (7, .int x43), (3, .int (rPats (p0).toNatClampNeg)), (2, .int (o_fields_f ((1 : Int32)).toNatClampNeg)), (0, .ref o), (1, .int p0)]) hx hb dX7_tries_329 hl (by decide) rfl (fun ls hl => ?_)
                                      exact J69 (1 : Int32) (Or.inr rfl) (qv_w (⟨by decide, by decide⟩ : qv (1) (1) (1 : Int32)) (by decide) (by decide)) ls _ _ E (lv_sub hl [1, 2, 3, 4, 5, 6, 7, 8, 9, 10, 0, 11, 12, 13, 14] rfl) hP hD hS
                            refine lv_icmp_ne (tgt := 295) hx hb dX7_tries_270 (by decide) (fun c58 => ?_) (fun c58 => ?_)
                            · rw [if_neg c58] at E
                              refine lv_iconst (v := (0 : Int32)) hx hb dX7_tries_295 (by decide) ?_
                              exact J63 (0 : Int32) (Or.inl rfl) (qv_w (⟨by decide, by decide⟩ : qv (0) (0) (0 : Int32)) (by decide) (by decide)) ls _ _ E (lv_sub hl [0, 1, 2, 3, 4, 5, 6, 7, 8, 9, 10, 11, 12, 13, 14] rfl) hP hD hS
                            · rw [if_pos c58] at E
                              refine lv_iload hx hb dX7_tries_273 (lv_at hl 1 rfl) ?_
                              refine lv_iconst (v := (1 : Int32)) hx hb dX7_tries_275 (by decide) ?_
                              refine lv_icmp_eq (tgt := 291) hx hb dX7_tries_276 (by decide) (fun c59 => ?_) (fun c59 => ?_)
                              · rw [if_pos c59] at E
                                refine lv_iconst (v := (1 : Int32)) hx hb dX7_tries_291 (by decide) ?_
                                refine lv_goto (tgt := 296) hx hb dX7_tries_292 (by decide) ?_
                                exact J63 (1 : Int32) (Or.inr rfl) (qv_w (⟨by decide, by decide⟩ : qv (1) (1) (1 : Int32)) (by decide) (by decide)) ls _ _ E (lv_sub hl [0, 1, 2, 3, 4, 5, 6, 7, 8, 9, 10, 11, 12, 13, 14] rfl) hP hD hS
                              · rw [if_neg c59] at E
                                refine lv_iload hx hb dX7_tries_279 (lv_at hl 1 rfl) ?_
                                refine lv_iconst (v := (2 : Int32)) hx hb dX7_tries_281 (by decide) ?_
                                refine lv_icmp_eq (tgt := 291) hx hb dX7_tries_282 (by decide) (fun c60 => ?_) (fun c60 => ?_)
                                · rw [if_pos c60] at E
                                  refine lv_iconst (v := (1 : Int32)) hx hb dX7_tries_291 (by decide) ?_
                                  refine lv_goto (tgt := 296) hx hb dX7_tries_292 (by decide) ?_
                                  exact J63 (1 : Int32) (Or.inr rfl) (qv_w (⟨by decide, by decide⟩ : qv (1) (1) (1 : Int32)) (by decide) (by decide)) ls _ _ E (lv_sub hl [0, 1, 2, 3, 4, 5, 6, 7, 8, 9, 10, 11, 12, 13, 14] rfl) hP hD hS
                                · rw [if_neg c60] at E
                                  refine lv_iload hx hb dX7_tries_285 (lv_at hl 1 rfl) ?_
                                  refine lv_iconst (v := (5 : Int32)) hx hb dX7_tries_287 (by decide) ?_
                                  refine lv_icmp_ne (tgt := 295) hx hb dX7_tries_288 (by decide) (fun c61 => ?_) (fun c61 => ?_)
                                  · rw [if_neg c61] at E
                                    refine lv_iconst (v := (0 : Int32)) hx hb dX7_tries_295 (by decide) ?_
                                    exact J63 (0 : Int32) (Or.inl rfl) (qv_w (⟨by decide, by decide⟩ : qv (0) (0) (0 : Int32)) (by decide) (by decide)) ls _ _ E (lv_sub hl [0, 1, 2, 3, 4, 5, 6, 7, 8, 9, 10, 11, 12, 13, 14] rfl) hP hD hS
                                  · rw [if_pos c61] at E
                                    refine lv_iconst (v := (1 : Int32)) hx hb dX7_tries_291 (by decide) ?_
                                    refine lv_goto (tgt := 296) hx hb dX7_tries_292 (by decide) ?_
                                    exact J63 (1 : Int32) (Or.inr rfl) (qv_w (⟨by decide, by decide⟩ : qv (1) (1) (1 : Int32)) (by decide) (by decide)) ls _ _ E (lv_sub hl [0, 1, 2, 3, 4, 5, 6, 7, 8, 9, 10, 11, 12, 13, 14] rfl) hP hD hS
                          refine lv_if_ne (tgt := 260) hx hb dX7_tries_251 (by decide) (fun c54 => ?_) (fun c54 => ?_)
                          · rw [if_neg c54] at E
                            refine lv_iconst (v := (1 : Int32)) hx hb dX7_tries_260 (by decide) ?_
                            refine lv_goto (tgt := 265) hx hb dX7_tries_261 (by decide) ?_
                            exact J57 (1 : Int32) (Or.inr rfl) (qv_w (⟨by decide, by decide⟩ : qv (1) (1) (1 : Int32)) (by decide) (by decide)) ls _ _ E (lv_sub hl [0, 1, 2, 3, 4, 5, 6, 7, 8, 9, 10, 11, 12, 13, 14] rfl) hP hD hS
                          · rw [if_pos c54] at E
                            refine lv_iload hx hb dX7_tries_254 (lv_at hl 3 rfl) ?_
                            refine lv_iconst (v := (2 : Int32)) hx hb dX7_tries_256 (by decide) ?_
                            refine lv_icmp_ne (tgt := 264) hx hb dX7_tries_257 (by decide) (fun c55 => ?_) (fun c55 => ?_)
                            · rw [if_neg c55] at E
                              refine lv_iconst (v := (0 : Int32)) hx hb dX7_tries_264 (by decide) ?_
                              exact J57 (0 : Int32) (Or.inl rfl) (qv_w (⟨by decide, by decide⟩ : qv (0) (0) (0 : Int32)) (by decide) (by decide)) ls _ _ E (lv_sub hl [0, 1, 2, 3, 4, 5, 6, 7, 8, 9, 10, 11, 12, 13, 14] rfl) hP hD hS
                            · rw [if_pos c55] at E
                              refine lv_iconst (v := (1 : Int32)) hx hb dX7_tries_260 (by decide) ?_
                              refine lv_goto (tgt := 265) hx hb dX7_tries_261 (by decide) ?_
                              exact J57 (1 : Int32) (Or.inr rfl) (qv_w (⟨by decide, by decide⟩ : qv (1) (1) (1 : Int32)) (by decide) (by decide)) ls _ _ E (lv_sub hl [0, 1, 2, 3, 4, 5, 6, 7, 8, 9, 10, 11, 12, 13, 14] rfl) hP hD hS
                      refine lv_if_eq (tgt := 395) hx hb dX7_tries_379 (by decide) (fun c49 => ?_) (fun c49 => ?_)
                      · rw [if_pos c49] at E
                        exact J52 (0 : Int32) ls _ _ E (lv_sub hl [0, 1, 2, 3, 4, 5, 6, 7, 8, 9, 10, 11, 12, 13, 14] rfl) hP hD hS
                      · rw [if_neg c49] at E
                        refine lv_iload hx hb dX7_tries_382 (lv_at hl 2 rfl) ?_
                        refine lv_iconst (v := (1 : Int32)) hx hb dX7_tries_384 (by decide) ?_
                        refine lv_icmp_eq (tgt := 395) hx hb dX7_tries_385 (by decide) (fun c50 => ?_) (fun c50 => ?_)
                        · rw [if_pos c50] at E
                          exact J52 (0 : Int32) ls _ _ E (lv_sub hl [0, 1, 2, 3, 4, 5, 6, 7, 8, 9, 10, 11, 12, 13, 14] rfl) hP hD hS
                        · rw [if_neg c50] at E
                          refine lv_iload hx hb dX7_tries_388 (lv_at hl 4 rfl) ?_
                          refine lv_bipush (v := (7 : Int32)) hx hb dX7_tries_390 (by decide) ?_
                          refine lv_iand hx hb dX7_tries_392 ?_
                          refine lv_istore (lv' := [(9, .int ((o_fields_f ((4 : Int32)).toNatClampNeg) &&& (7 : Int32))), (14, .int x30), (5, .int x24), (13, .int (f_X7_place (rPats (p0).toNatClampNeg) (0 : Int32))), (4, .int (f_X7_suits o_number o_fields_f p0 (0 : Int32) (o_fields_f ((3 : Int32)).toNatClampNeg) (o_fields_f ((4 : Int32)).toNatClampNeg))), (12, .int (o_fields_f ((4 : Int32)).toNatClampNeg)), (11, .int (o_fields_f ((3 : Int32)).toNatClampNeg)), (10, .int (0 : Int32)), (8, .int x47), (7, .int x43), (6, .int x36), (3, .int (rPats (p0).toNatClampNeg)), (2, .int (o_fields_f ((1 : Int32)).toNatClampNeg)), (0, .ref o), (1, .int p0)]) hx hb dX7_tries_393 hl (by decide) rfl (fun ls hl => ?_)
                          exact J52 ((o_fields_f ((4 : Int32)).toNatClampNeg) &&& (7 : Int32)) ls _ _ E (lv_sub hl [1, 2, 3, 4, 5, 6, 7, 0, 8, 9, 10, 11, 12, 13, 14] rfl) hP hD hS
                    refine lv_if_eq (tgt := 377) hx hb dX7_tries_361 (by decide) (fun c45 => ?_) (fun c45 => ?_)
                    · rw [if_pos c45] at E
                      exact J48 x20 ls _ _ E (lv_sub hl [0, 1, 2, 3, 4, 5, 6, 7, 8, 9, 10, 11, 12, 13, 14] rfl) hP hD hS
                    · rw [if_neg c45] at E
                      refine lv_iload hx hb dX7_tries_364 (lv_at hl 2 rfl) ?_
                      refine lv_iconst (v := (1 : Int32)) hx hb dX7_tries_366 (by decide) ?_
                      refine lv_icmp_ne (tgt := 377) hx hb dX7_tries_367 (by decide) (fun c46 => ?_) (fun c46 => ?_)
                      · rw [if_neg c46] at E
                        exact J48 x20 ls _ _ E (lv_sub hl [0, 1, 2, 3, 4, 5, 6, 7, 8, 9, 10, 11, 12, 13, 14] rfl) hP hD hS
                      · rw [if_pos c46] at E
                        refine lv_iload hx hb dX7_tries_370 (lv_at hl 4 rfl) ?_
                        refine lv_bipush (v := (7 : Int32)) hx hb dX7_tries_372 (by decide) ?_
                        refine lv_iand hx hb dX7_tries_374 ?_
                        refine lv_istore (lv' := [(8, .int ((o_fields_f ((4 : Int32)).toNatClampNeg) &&& (7 : Int32))), (14, .int x30), (5, .int x24), (13, .int (f_X7_place (rPats (p0).toNatClampNeg) (0 : Int32))), (4, .int (f_X7_suits o_number o_fields_f p0 (0 : Int32) (o_fields_f ((3 : Int32)).toNatClampNeg) (o_fields_f ((4 : Int32)).toNatClampNeg))), (12, .int (o_fields_f ((4 : Int32)).toNatClampNeg)), (11, .int (o_fields_f ((3 : Int32)).toNatClampNeg)), (10, .int (0 : Int32)), (9, .int (0 : Int32)), (7, .int x43), (6, .int x36), (3, .int (rPats (p0).toNatClampNeg)), (2, .int (o_fields_f ((1 : Int32)).toNatClampNeg)), (0, .ref o), (1, .int p0)]) hx hb dX7_tries_375 hl (by decide) rfl (fun ls hl => ?_)
                        exact J48 ((o_fields_f ((4 : Int32)).toNatClampNeg) &&& (7 : Int32)) ls _ _ E (lv_sub hl [1, 2, 3, 4, 5, 6, 7, 8, 0, 9, 10, 11, 12, 13, 14] rfl) hP hD hS
                  refine lv_if_eq (tgt := 359) hx hb dX7_tries_333 (by decide) (fun c38 => ?_) (fun c38 => ?_)
                  · rw [if_pos c38] at E
                    exact J44 x17 ls _ _ E (lv_sub hl [0, 1, 2, 3, 4, 5, 6, 7, 8, 9, 10, 11, 12, 13, 14] rfl) hP hD hS
                  · rw [if_neg c38] at E
                    refine lv_iload hx hb dX7_tries_336 (lv_at hl 4 rfl) ?_
                    refine lv_bipush (v := (7 : Int32)) hx hb dX7_tries_338 (by decide) ?_
                    refine lv_icmp_le (tgt := 359) hx hb dX7_tries_340 (by decide) (fun c39 => ?_) (fun c39 => ?_)
                    · rw [if_pos c39] at E
                      exact J44 x17 ls _ _ E (lv_sub hl [0, 1, 2, 3, 4, 5, 6, 7, 8, 9, 10, 11, 12, 13, 14] rfl) hP hD hS
                    · rw [if_neg c39] at E
                      refine lv_iload hx hb dX7_tries_343 (lv_at hl 9 rfl) ?_
                      refine lv_iload hx hb dX7_tries_345 (lv_at hl 2 rfl) ?_
                      refine lv_iconst (v := (1 : Int32)) hx hb dX7_tries_347 (by decide) ?_
                      have J42 : ∀ (x41 : Int32) (hv_x41 : qv (1) (4) x41) (ls : Array Slot) (H : Heap) (locs : List Loc), f_X7_tries_J42 o_number o_tried o_fields_f o_trial_f p0 x17 x20 x24 x30 x36 x41 = (r_o, o_tried_o, o_trial_f_o) → lv_has ls 15 [(14, .int x30), (5, .int x24), (13, .int (f_X7_place (rPats (p0).toNatClampNeg) (0 : Int32))), (4, .int (f_X7_suits o_number o_fields_f p0 (0 : Int32) (o_fields_f ((3 : Int32)).toNatClampNeg) (o_fields_f ((4 : Int32)).toNatClampNeg))), (12, .int (o_fields_f ((4 : Int32)).toNatClampNeg)), (11, .int (o_fields_f ((3 : Int32)).toNatClampNeg)), (10, .int (0 : Int32)), (9, .int (0 : Int32)), (8, .int x20), (7, .int x17), (6, .int x36), (3, .int (rPats (p0).toNatClampNeg)), (2, .int (o_fields_f ((1 : Int32)).toNatClampNeg)), (0, .ref o), (1, .int p0)] → va_P D vwCl [(o, .inr (6, [.int o_thrown, .int (115 : Int32), .ref o_ops, .ref o_sizes, .ref o_patterns, .ref o_leads, .ref o_codes, .ref o_tells, .ref o_numbers, .ref o_fields, .ref o_found, .long o_number, .long o_foundNumber, .ref o_bytes, .ref o_trial, .ref o_fed, .int o_length, .int o_tried, .int o_given, .int o_at, .int o_pfx, .int o_pfd, .int o_short0])), (o_ops, .inl (cI, 160, .inl rOps)), (o_sizes, .inl (cI, 160, .inl rSizes)), (o_patterns, .inl (cI, 160, .inl rPats)), (o_leads, .inl (cI, 160, .inl rLeads)), (o_codes, .inl (cI, 160, .inl rCodes)), (o_tells, .inl (cI, 160, .inl rTells)), (o_numbers, .inl (cI, 160, .inl rNums)), (o_fields, .inl (cI, 13, .inl o_fields_f)), (o_trial, .inl (cI, 20, .inl o_trial_f))] H → va_D A [(o, .inr (6, [.int o_thrown, .int (115 : Int32), .ref o_ops, .ref o_sizes, .ref o_patterns, .ref o_leads, .ref o_codes, .ref o_tells, .ref o_numbers, .ref o_fields, .ref o_found, .long o_number, .long o_foundNumber, .ref o_bytes, .ref o_trial, .ref o_fed, .int o_length, .int o_tried, .int o_given, .int o_at, .int o_pfx, .int o_pfd, .int o_short0])), (o_ops, .inl (cI, 160, .inl rOps)), (o_sizes, .inl (cI, 160, .inl rSizes)), (o_patterns, .inl (cI, 160, .inl rPats)), (o_leads, .inl (cI, 160, .inl rLeads)), (o_codes, .inl (cI, 160, .inl rCodes)), (o_tells, .inl (cI, 160, .inl rTells)), (o_numbers, .inl (cI, 160, .inl rNums)), (o_fields, .inl (cI, 13, .inl o_fields_f)), (o_trial, .inl (cI, 20, .inl o_trial_f))] → va_S A s.heap H locs → W p l e (qr 3 73) s m args below meth c H locs 0 0 Z (F0 m 356 ls [.int x41, .int x17]) := by
                        intro x41 hv_x41 ls H locs E hl hP hD hS
                        rw [f_X7_tries_J42] at E
                        refine lv_ior hx hb dX7_tries_356 ?_
                        refine lv_istore (lv' := [(7, .int (x17 ||| x41)), (14, .int x30), (5, .int x24), (13, .int (f_X7_place (rPats (p0).toNatClampNeg) (0 : Int32))), (4, .int (f_X7_suits o_number o_fields_f p0 (0 : Int32) (o_fields_f ((3 : Int32)).toNatClampNeg) (o_fields_f ((4 : Int32)).toNatClampNeg))), (12, .int (o_fields_f ((4 : Int32)).toNatClampNeg)), (11, .int (o_fields_f ((3 : Int32)).toNatClampNeg)), (10, .int (0 : Int32)), (9, .int (0 : Int32)), (8, .int x20), (6, .int x36), (3, .int (rPats (p0).toNatClampNeg)), (2, .int (o_fields_f ((1 : Int32)).toNatClampNeg)), (0, .ref o), (1, .int p0)]) hx hb dX7_tries_357 hl (by decide) rfl (fun ls hl => ?_)
                        exact J44 (x17 ||| x41) ls _ _ E (lv_sub hl [1, 2, 3, 4, 5, 6, 7, 8, 9, 0, 10, 11, 12, 13, 14] rfl) hP hD hS
                      refine lv_icmp_ne (tgt := 355) hx hb dX7_tries_348 (by decide) (fun c40 => ?_) (fun c40 => ?_)
                      · rw [if_neg c40] at E
                        refine lv_iconst (v := (1 : Int32)) hx hb dX7_tries_355 (by decide) ?_
                        exact J42 (1 : Int32) (qv_w (⟨by decide, by decide⟩ : qv (1) (1) (1 : Int32)) (by decide) (by decide)) ls _ _ E (lv_sub hl [0, 1, 2, 3, 4, 5, 6, 7, 8, 9, 10, 11, 12, 13, 14] rfl) hP hD hS
                      · rw [if_pos c40] at E
                        refine lv_iconst (v := (4 : Int32)) hx hb dX7_tries_351 (by decide) ?_
                        refine lv_goto (tgt := 356) hx hb dX7_tries_352 (by decide) ?_
                        exact J42 (4 : Int32) (qv_w (⟨by decide, by decide⟩ : qv (4) (4) (4 : Int32)) (by decide) (by decide)) ls _ _ E (lv_sub hl [0, 1, 2, 3, 4, 5, 6, 7, 8, 9, 10, 11, 12, 13, 14] rfl) hP hD hS
                refine lv_if_eq (tgt := 331) hx hb dX7_tries_300 (by decide) (fun c32 => ?_) (fun c32 => ?_)
                · rw [if_pos c32] at E
                  exact J37 x14 hb_x14 (qv_w (⟨hv_x14.1, hv_x14.2⟩ : qv (0) (1) x14) (by decide) (by decide)) ls _ _ E (lv_sub hl [0, 1, 2, 3, 4, 5, 6, 7, 8, 9, 10, 11, 12, 13, 14] rfl) hP hD hS
                · rw [if_neg c32] at E
                  refine lv_aload_n hx hb dX7_tries_303 rfl (lv_at hl 13 rfl) ?_
                  refine lv_iload_n hx hb dX7_tries_304 rfl (lv_at hl 14 rfl) ?_
                  refine lv_iload hx hb dX7_tries_305 (lv_at hl 2 rfl) ?_
                  refine lv_iload_n hx hb dX7_tries_307 rfl (lv_at hl 12 rfl) ?_
                  refine qw_callV (As := [.int p0, .int (f_X7_place (rPats (p0).toNatClampNeg) (0 : Int32)), .int (o_fields_f ((1 : Int32)).toNatClampNeg)]) (rest := []) (ws' := [(o, .inr (6, [.int o_thrown, .int (115 : Int32), .ref o_ops, .ref o_sizes, .ref o_patterns, .ref o_leads, .ref o_codes, .ref o_tells, .ref o_numbers, .ref o_fields, .ref o_found, .long o_number, .long o_foundNumber, .ref o_bytes, .ref o_trial, .ref o_fed, .int o_length, .int o_tried, .int o_given, .int o_at, .int o_pfx, .int o_pfd, .int o_short0])), (o_ops, .inl (cI, 160, .inl rOps)), (o_sizes, .inl (cI, 160, .inl rSizes)), (o_patterns, .inl (cI, 160, .inl rPats)), (o_leads, .inl (cI, 160, .inl rLeads)), (o_codes, .inl (cI, 160, .inl rCodes)), (o_tells, .inl (cI, 160, .inl rTells)), (o_numbers, .inl (cI, 160, .inl rNums)), (o_fields, .inl (cI, 13, .inl o_fields_f)), (o_trial, .inl (cI, 20, .inl o_trial_f))]) (st1 := [.int (f_X7_width p0 (f_X7_place (rPats (p0).toNatClampNeg) (0 : Int32)) (o_fields_f ((1 : Int32)).toNatClampNeg))]) ⟨hx, hb, hml, hown, hts⟩ (c_X7_width l D cI tT o o_ops o_sizes o_patterns o_leads o_codes o_tells o_numbers o_fields o_found o_bytes o_trial o_fed o_thrown o_number o_foundNumber o_length o_tried o_given o_at o_pfx o_pfd o_short0 p0 (f_X7_place (rPats (p0).toNatClampNeg) (0 : Int32)) (o_fields_f ((1 : Int32)).toNatClampNeg) (qv_w (⟨hv_p0.1, hv_p0.2⟩ : qv (0) (114) p0) (by decide) (by decide) : qv (0) (114) p0) (f_X7_width p0 (f_X7_place (rPats (p0).toNatClampNeg) (0 : Int32)) (o_fields_f ((1 : Int32)).toNatClampNeg)) rfl) (cwV 3 hts gX7_tries_X7_width rfl rfl rfl (by decide +kernel) ⟨Nat.le_of_ble_eq_true rfl, Nat.le_of_ble_eq_true rfl⟩) hXg hK hP hD hS hA hXs [0, 1] rfl rfl  rfl rfl rfl rfl rfl rfl hl.1 rfl (Nat.le_of_ble_eq_true rfl) rfl ⟨Nat.zero_le _, Nat.zero_le _⟩ dX7_tries_308 (fun H locs hP hD hS => ?_)
                  refine lv_iconst (v := (1 : Int32)) hx hb dX7_tries_311 (by decide) ?_
                  refine lv_icmp_ne (tgt := 331) hx hb dX7_tries_312 (by decide) (fun c33 => ?_) (fun c33 => ?_)
                  · rw [if_neg c33] at E
                    exact J37 x14 hb_x14 (qv_w (⟨hv_x14.1, hv_x14.2⟩ : qv (0) (1) x14) (by decide) (by decide)) ls _ _ E (lv_sub hl [0, 1, 2, 3, 4, 5, 6, 7, 8, 9, 10, 11, 12, 13, 14] rfl) hP hD hS
                  · rw [if_pos c33] at E
                    refine lv_iload hx hb dX7_tries_315 (lv_at hl 4 rfl) ?_
                    refine lv_iconst (v := (3 : Int32)) hx hb dX7_tries_317 (by decide) ?_
                    refine lv_icmp_le (tgt := 331) hx hb dX7_tries_318 (by decide) (fun c34 => ?_) (fun c34 => ?_)
                    · rw [if_pos c34] at E
                      exact J37 x14 hb_x14 (qv_w (⟨hv_x14.1, hv_x14.2⟩ : qv (0) (1) x14) (by decide) (by decide)) ls _ _ E (lv_sub hl [0, 1, 2, 3, 4, 5, 6, 7, 8, 9, 10, 11, 12, 13, 14] rfl) hP hD hS
                    · rw [if_neg c34] at E
                      refine lv_iload hx hb dX7_tries_321 (lv_at hl 4 rfl) ?_
                      refine lv_bipush (v := (8 : Int32)) hx hb dX7_tries_323 (by decide) ?_
                      refine lv_icmp_ge (tgt := 331) hx hb dX7_tries_325 (by decide) (fun c35 => ?_) (fun c35 => ?_)
                      · rw [if_pos c35] at E
                        exact J37 x14 hb_x14 (qv_w (⟨hv_x14.1, hv_x14.2⟩ : qv (0) (1) x14) (by decide) (by decide)) ls _ _ E (lv_sub hl [0, 1, 2, 3, 4, 5, 6, 7, 8, 9, 10, 11, 12, 13, 14] rfl) hP hD hS
                      · rw [if_neg c35] at E
                        refine lv_iconst (v := (1 : Int32)) hx hb dX7_tries_328 (by decide) ?_
                        refine lv_istore (lv' := [(6, .int (1 : Int32)), (14, .int x30), (5, .int x24), (13, .int (f_X7_place (rPats (p0).toNatClampNeg) (0 : Int32))), (4, .int (f_X7_suits o_number o_fields_f p0 (0 : Int32) (o_fields_f ((3 : Int32)).toNatClampNeg) (o_fields_f ((4 : Int32)).toNatClampNeg))), (12, .int (o_fields_f ((4 : Int32)).toNatClampNeg)), (11, .int (o_fields_f ((3 : Int32)).toNatClampNeg)), (10, .int (0 : Int32)), (9, .int (0 : Int32)), (8, .int x20), (7, .int x17), (3, .int (rPats (p0).toNatClampNeg)), (2, .int (o_fields_f ((1 : Int32)).toNatClampNeg)), (0, .ref o), (1, .int p0)]) hx hb dX7_tries_329 hl (by decide) rfl (fun ls hl => ?_)
                        exact J37 (1 : Int32) (Or.inr rfl) (qv_w (⟨by decide, by decide⟩ : qv (1) (1) (1 : Int32)) (by decide) (by decide)) ls _ _ E (lv_sub hl [1, 2, 3, 4, 5, 6, 7, 8, 9, 10, 0, 11, 12, 13, 14] rfl) hP hD hS
              refine lv_icmp_ne (tgt := 295) hx hb dX7_tries_270 (by decide) (fun c26 => ?_) (fun c26 => ?_)
              · rw [if_neg c26] at E
                refine lv_iconst (v := (0 : Int32)) hx hb dX7_tries_295 (by decide) ?_
                exact J31 (0 : Int32) (Or.inl rfl) (qv_w (⟨by decide, by decide⟩ : qv (0) (0) (0 : Int32)) (by decide) (by decide)) ls _ _ E (lv_sub hl [0, 1, 2, 3, 4, 5, 6, 7, 8, 9, 10, 11, 12, 13] rfl) hP hD hS
              · rw [if_pos c26] at E
                refine lv_iload hx hb dX7_tries_273 (lv_at hl 1 rfl) ?_
                refine lv_iconst (v := (1 : Int32)) hx hb dX7_tries_275 (by decide) ?_
                refine lv_icmp_eq (tgt := 291) hx hb dX7_tries_276 (by decide) (fun c27 => ?_) (fun c27 => ?_)
                · rw [if_pos c27] at E
                  refine lv_iconst (v := (1 : Int32)) hx hb dX7_tries_291 (by decide) ?_
                  refine lv_goto (tgt := 296) hx hb dX7_tries_292 (by decide) ?_
                  exact J31 (1 : Int32) (Or.inr rfl) (qv_w (⟨by decide, by decide⟩ : qv (1) (1) (1 : Int32)) (by decide) (by decide)) ls _ _ E (lv_sub hl [0, 1, 2, 3, 4, 5, 6, 7, 8, 9, 10, 11, 12, 13] rfl) hP hD hS
                · rw [if_neg c27] at E
                  refine lv_iload hx hb dX7_tries_279 (lv_at hl 1 rfl) ?_
                  refine lv_iconst (v := (2 : Int32)) hx hb dX7_tries_281 (by decide) ?_
                  refine lv_icmp_eq (tgt := 291) hx hb dX7_tries_282 (by decide) (fun c28 => ?_) (fun c28 => ?_)
                  · rw [if_pos c28] at E
                    refine lv_iconst (v := (1 : Int32)) hx hb dX7_tries_291 (by decide) ?_
                    refine lv_goto (tgt := 296) hx hb dX7_tries_292 (by decide) ?_
                    exact J31 (1 : Int32) (Or.inr rfl) (qv_w (⟨by decide, by decide⟩ : qv (1) (1) (1 : Int32)) (by decide) (by decide)) ls _ _ E (lv_sub hl [0, 1, 2, 3, 4, 5, 6, 7, 8, 9, 10, 11, 12, 13] rfl) hP hD hS
                  · rw [if_neg c28] at E
                    refine lv_iload hx hb dX7_tries_285 (lv_at hl 1 rfl) ?_
                    refine lv_iconst (v := (5 : Int32)) hx hb dX7_tries_287 (by decide) ?_
                    refine lv_icmp_ne (tgt := 295) hx hb dX7_tries_288 (by decide) (fun c29 => ?_) (fun c29 => ?_)
                    · rw [if_neg c29] at E
                      refine lv_iconst (v := (0 : Int32)) hx hb dX7_tries_295 (by decide) ?_
                      exact J31 (0 : Int32) (Or.inl rfl) (qv_w (⟨by decide, by decide⟩ : qv (0) (0) (0 : Int32)) (by decide) (by decide)) ls _ _ E (lv_sub hl [0, 1, 2, 3, 4, 5, 6, 7, 8, 9, 10, 11, 12, 13] rfl) hP hD hS
                    · rw [if_pos c29] at E
                      refine lv_iconst (v := (1 : Int32)) hx hb dX7_tries_291 (by decide) ?_
                      refine lv_goto (tgt := 296) hx hb dX7_tries_292 (by decide) ?_
                      exact J31 (1 : Int32) (Or.inr rfl) (qv_w (⟨by decide, by decide⟩ : qv (1) (1) (1 : Int32)) (by decide) (by decide)) ls _ _ E (lv_sub hl [0, 1, 2, 3, 4, 5, 6, 7, 8, 9, 10, 11, 12, 13] rfl) hP hD hS
            refine lv_icmp_ne (tgt := 264) hx hb dX7_tries_257 (by decide) (fun c23 => ?_) (fun c23 => ?_)
            · rw [if_neg c23] at E
              refine lv_iconst (v := (0 : Int32)) hx hb dX7_tries_264 (by decide) ?_
              exact J25 (0 : Int32) (Or.inl rfl) (qv_w (⟨by decide, by decide⟩ : qv (0) (0) (0 : Int32)) (by decide) (by decide)) ls _ _ E (lv_sub hl [0, 1, 2, 3, 4, 5, 6, 7, 8, 9, 10, 11, 12, 13] rfl) hP hD hS
            · rw [if_pos c23] at E
              refine lv_iconst (v := (1 : Int32)) hx hb dX7_tries_260 (by decide) ?_
              refine lv_goto (tgt := 265) hx hb dX7_tries_261 (by decide) ?_
              exact J25 (1 : Int32) (Or.inr rfl) (qv_w (⟨by decide, by decide⟩ : qv (1) (1) (1 : Int32)) (by decide) (by decide)) ls _ _ E (lv_sub hl [0, 1, 2, 3, 4, 5, 6, 7, 8, 9, 10, 11, 12, 13] rfl) hP hD hS
        refine lv_icmp_ge (tgt := 182) hx hb dX7_tries_170 (by decide) (fun c19 => ?_) (fun c19 => ?_)
        · rw [if_pos c19] at E
          refine lv_iconst (v := (0 : Int32)) hx hb dX7_tries_182 (by decide) ?_
          exact J21 (0 : Int32) ls _ _ E (lv_sub hl [0, 1, 2, 3, 4, 5, 6, 7] rfl) hP hD hS
        · rw [if_neg c19] at E
          refine lv_aload_n hx hb dX7_tries_173 rfl (lv_at hl 6 rfl) ?_
          refine va_get (D := D) (ci := 6) (v := .ref o_tells) (C := RX7) (T := TX7) (N := 23) hx hb hts hi_X7 hown hK hP 0 rfl rfl 7 (by decide) lk25 (fun _ h9 => h9) rfl dX7_tries_174 ?_
          refine lv_iload_n hx hb dX7_tries_177 rfl (lv_at hl 7 rfl) ?_
          refine va_iald hx hb hK hP 6 0 rfl rfl (qv_in (⟨hv_p0.1, hv_p0.2⟩ : qv (0) (114) p0) (by decide) (by decide)) dX7_tries_178 ?_
          refine lv_goto (tgt := 183) hx hb dX7_tries_179 (by decide) ?_
          exact J21 (rTells (p0).toNatClampNeg) ls _ _ E (lv_sub hl [0, 1, 2, 3, 4, 5, 6, 7] rfl) hP hD hS
      refine lv_if_eq (tgt := 159) hx hb dX7_tries_151 (by decide) (fun c16 => ?_) (fun c16 => ?_)
      · rw [if_pos c16] at E
        refine lv_iconst (v := (0 : Int32)) hx hb dX7_tries_159 (by decide) ?_
        exact J18 (0 : Int32) (qv_w (⟨by decide, by decide⟩ : qv (0) (0) (0 : Int32)) (by decide) (by decide)) ls _ _ E (lv_sub hl [0, 1, 2, 3, 4, 5, 6] rfl) hP hD hS
      · rw [if_neg c16] at E
        refine lv_bipush (v := (8 : Int32)) hx hb dX7_tries_154 (by decide) ?_
        refine lv_goto (tgt := 160) hx hb dX7_tries_156 (by decide) ?_
        exact J18 (8 : Int32) (qv_w (⟨by decide, by decide⟩ : qv (8) (8) (8 : Int32)) (by decide) (by decide)) ls _ _ E (lv_sub hl [0, 1, 2, 3, 4, 5, 6] rfl) hP hD hS
    refine lv_icmp_eq (tgt := 142) hx hb dX7_tries_103 (by decide) (fun c9 => ?_) (fun c9 => ?_)
    · rw [if_pos c9] at E
      refine lv_iconst (v := (1 : Int32)) hx hb dX7_tries_142 (by decide) ?_
      refine lv_goto (tgt := 147) hx hb dX7_tries_143 (by decide) ?_
      exact J15 (1 : Int32) (Or.inr rfl) (qv_w (⟨by decide, by decide⟩ : qv (1) (1) (1 : Int32)) (by decide) (by decide)) ls _ _ E (lv_sub hl [0, 1, 2, 3, 4, 5] rfl) hP hD hS
    · rw [if_neg c9] at E
      refine lv_iload_n hx hb dX7_tries_106 rfl (lv_at hl 3 rfl) ?_
      refine lv_bipush (v := (8 : Int32)) hx hb dX7_tries_107 (by decide) ?_
      refine lv_icmp_ne (tgt := 146) hx hb dX7_tries_109 (by decide) (fun c10 => ?_) (fun c10 => ?_)
      · rw [if_neg c10] at E
        refine lv_iconst (v := (0 : Int32)) hx hb dX7_tries_146 (by decide) ?_
        exact J15 (0 : Int32) (Or.inl rfl) (qv_w (⟨by decide, by decide⟩ : qv (0) (0) (0 : Int32)) (by decide) (by decide)) ls _ _ E (lv_sub hl [0, 1, 2, 3, 4, 5] rfl) hP hD hS
      · rw [if_pos c10] at E
        refine lv_aload_n hx hb dX7_tries_112 rfl (lv_at hl 4 rfl) ?_
        refine va_get (D := D) (ci := 6) (v := .ref o_sizes) (C := RX7) (T := TX7) (N := 23) hx hb hts hi_X7 hown hK hP 0 rfl rfl 3 (by decide) lk13 (fun _ h9 => h9) rfl dX7_tries_113 ?_
        refine lv_iload_n hx hb dX7_tries_116 rfl (lv_at hl 5 rfl) ?_
        refine va_iald hx hb hK hP 2 0 rfl rfl (qv_in (⟨hv_p0.1, hv_p0.2⟩ : qv (0) (114) p0) (by decide) (by decide)) dX7_tries_117 ?_
        refine lv_if_eq (tgt := 142) hx hb dX7_tries_118 (by decide) (fun c11 => ?_) (fun c11 => ?_)
        · rw [if_pos c11] at E
          refine lv_iconst (v := (1 : Int32)) hx hb dX7_tries_142 (by decide) ?_
          refine lv_goto (tgt := 147) hx hb dX7_tries_143 (by decide) ?_
          exact J15 (1 : Int32) (Or.inr rfl) (qv_w (⟨by decide, by decide⟩ : qv (1) (1) (1 : Int32)) (by decide) (by decide)) ls _ _ E (lv_sub hl [0, 1, 2, 3, 4, 5] rfl) hP hD hS
        · rw [if_neg c11] at E
          refine lv_aload_n hx hb dX7_tries_121 rfl (lv_at hl 4 rfl) ?_
          refine va_get (D := D) (ci := 6) (v := .ref o_sizes) (C := RX7) (T := TX7) (N := 23) hx hb hts hi_X7 hown hK hP 0 rfl rfl 3 (by decide) lk13 (fun _ h9 => h9) rfl dX7_tries_122 ?_
          refine lv_iload_n hx hb dX7_tries_125 rfl (lv_at hl 5 rfl) ?_
          refine va_iald hx hb hK hP 2 0 rfl rfl (qv_in (⟨hv_p0.1, hv_p0.2⟩ : qv (0) (114) p0) (by decide) (by decide)) dX7_tries_126 ?_
          refine lv_iconst (v := (1 : Int32)) hx hb dX7_tries_127 (by decide) ?_
          refine lv_icmp_eq (tgt := 142) hx hb dX7_tries_128 (by decide) (fun c12 => ?_) (fun c12 => ?_)
          · rw [if_pos c12] at E
            refine lv_iconst (v := (1 : Int32)) hx hb dX7_tries_142 (by decide) ?_
            refine lv_goto (tgt := 147) hx hb dX7_tries_143 (by decide) ?_
            exact J15 (1 : Int32) (Or.inr rfl) (qv_w (⟨by decide, by decide⟩ : qv (1) (1) (1 : Int32)) (by decide) (by decide)) ls _ _ E (lv_sub hl [0, 1, 2, 3, 4, 5] rfl) hP hD hS
          · rw [if_neg c12] at E
            refine lv_aload_n hx hb dX7_tries_131 rfl (lv_at hl 4 rfl) ?_
            refine va_get (D := D) (ci := 6) (v := .ref o_sizes) (C := RX7) (T := TX7) (N := 23) hx hb hts hi_X7 hown hK hP 0 rfl rfl 3 (by decide) lk13 (fun _ h9 => h9) rfl dX7_tries_132 ?_
            refine lv_iload_n hx hb dX7_tries_135 rfl (lv_at hl 5 rfl) ?_
            refine va_iald hx hb hK hP 2 0 rfl rfl (qv_in (⟨hv_p0.1, hv_p0.2⟩ : qv (0) (114) p0) (by decide) (by decide)) dX7_tries_136 ?_
            refine lv_bipush (v := (7 : Int32)) hx hb dX7_tries_137 (by decide) ?_
            refine lv_icmp_ne (tgt := 146) hx hb dX7_tries_139 (by decide) (fun c13 => ?_) (fun c13 => ?_)
            · rw [if_neg c13] at E
              refine lv_iconst (v := (0 : Int32)) hx hb dX7_tries_146 (by decide) ?_
              exact J15 (0 : Int32) (Or.inl rfl) (qv_w (⟨by decide, by decide⟩ : qv (0) (0) (0 : Int32)) (by decide) (by decide)) ls _ _ E (lv_sub hl [0, 1, 2, 3, 4, 5] rfl) hP hD hS
            · rw [if_pos c13] at E
              refine lv_iconst (v := (1 : Int32)) hx hb dX7_tries_142 (by decide) ?_
              refine lv_goto (tgt := 147) hx hb dX7_tries_143 (by decide) ?_
              exact J15 (1 : Int32) (Or.inr rfl) (qv_w (⟨by decide, by decide⟩ : qv (1) (1) (1 : Int32)) (by decide) (by decide)) ls _ _ E (lv_sub hl [0, 1, 2, 3, 4, 5] rfl) hP hD hS
  refine lv_icmp_ne (tgt := 90) hx hb dX7_tries_26 (by decide) (fun c1 => ?_) (fun c1 => ?_)
  · rw [if_neg c1] at E
    refine lv_iconst (v := (0 : Int32)) hx hb dX7_tries_90 (by decide) ?_
    exact J8 (0 : Int32) (Or.inl rfl) (qv_w (⟨by decide, by decide⟩ : qv (0) (0) (0 : Int32)) (by decide) (by decide)) ls _ _ E (lv_sub hl [0, 1, 2, 3] rfl) hP hD hS
  · rw [if_pos c1] at E
    refine lv_aload_n hx hb dX7_tries_29 rfl (lv_at hl 2 rfl) ?_
    refine va_get (D := D) (ci := 6) (v := .ref o_sizes) (C := RX7) (T := TX7) (N := 23) hx hb hts hi_X7 hown hK hP 0 rfl rfl 3 (by decide) lk13 (fun _ h9 => h9) rfl dX7_tries_30 ?_
    refine lv_iload_n hx hb dX7_tries_33 rfl (lv_at hl 3 rfl) ?_
    refine va_iald hx hb hK hP 2 0 rfl rfl (qv_in (⟨hv_p0.1, hv_p0.2⟩ : qv (0) (114) p0) (by decide) (by decide)) dX7_tries_34 ?_
    refine lv_iload_n hx hb dX7_tries_35 rfl (lv_at hl 1 rfl) ?_
    refine qw_callS (As := [.int (rSizes (p0).toNatClampNeg), .int (o_fields_f ((1 : Int32)).toNatClampNeg)]) (rest := []) (ws' := [(o, .inr (6, [.int o_thrown, .int (115 : Int32), .ref o_ops, .ref o_sizes, .ref o_patterns, .ref o_leads, .ref o_codes, .ref o_tells, .ref o_numbers, .ref o_fields, .ref o_found, .long o_number, .long o_foundNumber, .ref o_bytes, .ref o_trial, .ref o_fed, .int o_length, .int o_tried, .int o_given, .int o_at, .int o_pfx, .int o_pfd, .int o_short0])), (o_ops, .inl (cI, 160, .inl rOps)), (o_sizes, .inl (cI, 160, .inl rSizes)), (o_patterns, .inl (cI, 160, .inl rPats)), (o_leads, .inl (cI, 160, .inl rLeads)), (o_codes, .inl (cI, 160, .inl rCodes)), (o_tells, .inl (cI, 160, .inl rTells)), (o_numbers, .inl (cI, 160, .inl rNums)), (o_fields, .inl (cI, 13, .inl o_fields_f)), (o_trial, .inl (cI, 20, .inl o_trial_f))]) (st1 := [.int (f_X7_allows (rSizes (p0).toNatClampNeg) (o_fields_f ((1 : Int32)).toNatClampNeg))]) ⟨hx, hb, hml, hown, hts⟩ (c_X7_allows l D cI tT (rSizes (p0).toNatClampNeg) (o_fields_f ((1 : Int32)).toNatClampNeg) (f_X7_allows (rSizes (p0).toNatClampNeg) (o_fields_f ((1 : Int32)).toNatClampNeg)) rfl) (va_cwS 2 hts gX7_tries_X7_allows rfl rfl rfl (by decide +kernel) ⟨Nat.le_of_ble_eq_true rfl, Nat.le_of_ble_eq_true rfl⟩) hXg hK hP hD hS hA hXs [] rfl rfl  rfl rfl rfl hl.1 rfl (Nat.le_of_ble_eq_true rfl) rfl ⟨Nat.zero_le _, Nat.zero_le _⟩ dX7_tries_36 (fun H locs hP hD hS => ?_)
    refine lv_if_eq (tgt := 90) hx hb dX7_tries_39 (by decide) (fun c2 => ?_) (fun c2 => ?_)
    · rw [if_pos c2] at E
      refine lv_iconst (v := (0 : Int32)) hx hb dX7_tries_90 (by decide) ?_
      exact J8 (0 : Int32) (Or.inl rfl) (qv_w (⟨by decide, by decide⟩ : qv (0) (0) (0 : Int32)) (by decide) (by decide)) ls _ _ E (lv_sub hl [0, 1, 2, 3] rfl) hP hD hS
    · rw [if_neg c2] at E
      refine lv_aload_n hx hb dX7_tries_42 rfl (lv_at hl 2 rfl) ?_
      refine va_get (D := D) (ci := 6) (v := .ref o_ops) (C := RX7) (T := TX7) (N := 23) hx hb hts hi_X7 hown hK hP 0 rfl rfl 2 (by decide) lk7 (fun _ h9 => h9) rfl dX7_tries_43 ?_
      refine lv_iload_n hx hb dX7_tries_46 rfl (lv_at hl 3 rfl) ?_
      refine va_iald hx hb hK hP 1 0 rfl rfl (qv_in (⟨hv_p0.1, hv_p0.2⟩ : qv (0) (114) p0) (by decide) (by decide)) dX7_tries_47 ?_
      refine qw_callS (As := [.int (rOps (p0).toNatClampNeg)]) (rest := []) (ws' := [(o, .inr (6, [.int o_thrown, .int (115 : Int32), .ref o_ops, .ref o_sizes, .ref o_patterns, .ref o_leads, .ref o_codes, .ref o_tells, .ref o_numbers, .ref o_fields, .ref o_found, .long o_number, .long o_foundNumber, .ref o_bytes, .ref o_trial, .ref o_fed, .int o_length, .int o_tried, .int o_given, .int o_at, .int o_pfx, .int o_pfd, .int o_short0])), (o_ops, .inl (cI, 160, .inl rOps)), (o_sizes, .inl (cI, 160, .inl rSizes)), (o_patterns, .inl (cI, 160, .inl rPats)), (o_leads, .inl (cI, 160, .inl rLeads)), (o_codes, .inl (cI, 160, .inl rCodes)), (o_tells, .inl (cI, 160, .inl rTells)), (o_numbers, .inl (cI, 160, .inl rNums)), (o_fields, .inl (cI, 13, .inl o_fields_f)), (o_trial, .inl (cI, 20, .inl o_trial_f))]) (st1 := [.int (f_X7_conditional (rOps (p0).toNatClampNeg))]) ⟨hx, hb, hml, hown, hts⟩ (c_X7_conditional l D cI tT (rOps (p0).toNatClampNeg) (f_X7_conditional (rOps (p0).toNatClampNeg)) rfl) (va_cwS 1 hts gX7_tries_X7_conditional rfl rfl rfl (by decide +kernel) ⟨Nat.le_of_ble_eq_true rfl, Nat.le_of_ble_eq_true rfl⟩) hXg hK hP hD hS hA hXs [] rfl rfl  rfl rfl rfl hl.1 rfl (Nat.le_of_ble_eq_true rfl) rfl ⟨Nat.zero_le _, Nat.zero_le _⟩ dX7_tries_48 (fun H locs hP hD hS => ?_)
      refine lv_if_eq (tgt := 77) hx hb dX7_tries_51 (by decide) (fun c3 => ?_) (fun c3 => ?_)
      · rw [if_pos c3] at E
        refine lv_aload_n hx hb dX7_tries_77 rfl (lv_at hl 2 rfl) ?_
        refine va_get (D := D) (ci := 6) (v := .ref o_fields) (C := RX7) (T := TX7) (N := 23) hx hb hts hi_X7 hown hK hP 0 rfl rfl 9 (by decide) lk31 (fun _ h9 => h9) rfl dX7_tries_78 ?_
        refine lv_iconst (v := (2 : Int32)) hx hb dX7_tries_81 (by decide) ?_
        refine va_iald hx hb hK hP 8 0 rfl rfl (qw_in0 (x := (2 : Int32)) (n := 13) (by decide) (by decide)) dX7_tries_82 ?_
        refine lv_if_ne (tgt := 90) hx hb dX7_tries_83 (by decide) (fun c4 => ?_) (fun c4 => ?_)
        · rw [if_neg c4] at E
          refine lv_iconst (v := (0 : Int32)) hx hb dX7_tries_90 (by decide) ?_
          exact J8 (0 : Int32) (Or.inl rfl) (qv_w (⟨by decide, by decide⟩ : qv (0) (0) (0 : Int32)) (by decide) (by decide)) ls _ _ E (lv_sub hl [0, 1, 2, 3] rfl) hP hD hS
        · rw [if_pos c4] at E
          refine lv_iconst (v := (1 : Int32)) hx hb dX7_tries_86 (by decide) ?_
          refine lv_goto (tgt := 91) hx hb dX7_tries_87 (by decide) ?_
          exact J8 (1 : Int32) (Or.inr rfl) (qv_w (⟨by decide, by decide⟩ : qv (1) (1) (1 : Int32)) (by decide) (by decide)) ls _ _ E (lv_sub hl [0, 1, 2, 3] rfl) hP hD hS
      · rw [if_neg c3] at E
        refine lv_aload_n hx hb dX7_tries_54 rfl (lv_at hl 2 rfl) ?_
        refine va_get (D := D) (ci := 6) (v := .ref o_fields) (C := RX7) (T := TX7) (N := 23) hx hb hts hi_X7 hown hK hP 0 rfl rfl 9 (by decide) lk31 (fun _ h9 => h9) rfl dX7_tries_55 ?_
        refine lv_iconst (v := (2 : Int32)) hx hb dX7_tries_58 (by decide) ?_
        refine va_iald hx hb hK hP 8 0 rfl rfl (qw_in0 (x := (2 : Int32)) (n := 13) (by decide) (by decide)) dX7_tries_59 ?_
        refine lv_if_lt (tgt := 90) hx hb dX7_tries_60 (by decide) (fun c5 => ?_) (fun c5 => ?_)
        · rw [if_pos c5] at E
          refine lv_iconst (v := (0 : Int32)) hx hb dX7_tries_90 (by decide) ?_
          exact J8 (0 : Int32) (Or.inl rfl) (qv_w (⟨by decide, by decide⟩ : qv (0) (0) (0 : Int32)) (by decide) (by decide)) ls _ _ E (lv_sub hl [0, 1, 2, 3] rfl) hP hD hS
        · rw [if_neg c5] at E
          refine lv_aload_n hx hb dX7_tries_63 rfl (lv_at hl 2 rfl) ?_
          refine va_get (D := D) (ci := 6) (v := .ref o_fields) (C := RX7) (T := TX7) (N := 23) hx hb hts hi_X7 hown hK hP 0 rfl rfl 9 (by decide) lk31 (fun _ h9 => h9) rfl dX7_tries_64 ?_
          refine lv_iconst (v := (2 : Int32)) hx hb dX7_tries_67 (by decide) ?_
          refine va_iald hx hb hK hP 8 0 rfl rfl (qw_in0 (x := (2 : Int32)) (n := 13) (by decide) (by decide)) dX7_tries_68 ?_
          refine lv_bipush (v := (16 : Int32)) hx hb dX7_tries_69 (by decide) ?_
          refine lv_icmp_ge (tgt := 90) hx hb dX7_tries_71 (by decide) (fun c6 => ?_) (fun c6 => ?_)
          · rw [if_pos c6] at E
            refine lv_iconst (v := (0 : Int32)) hx hb dX7_tries_90 (by decide) ?_
            exact J8 (0 : Int32) (Or.inl rfl) (qv_w (⟨by decide, by decide⟩ : qv (0) (0) (0 : Int32)) (by decide) (by decide)) ls _ _ E (lv_sub hl [0, 1, 2, 3] rfl) hP hD hS
          · rw [if_neg c6] at E
            refine lv_goto (tgt := 86) hx hb dX7_tries_74 (by decide) ?_
            refine lv_iconst (v := (1 : Int32)) hx hb dX7_tries_86 (by decide) ?_
            refine lv_goto (tgt := 91) hx hb dX7_tries_87 (by decide) ?_
            exact J8 (1 : Int32) (Or.inr rfl) (qv_w (⟨by decide, by decide⟩ : qv (1) (1) (1 : Int32)) (by decide) (by decide)) ls _ _ E (lv_sub hl [0, 1, 2, 3] rfl) hP hD hS
set_option maxHeartbeats 4000000 in
set_option maxRecDepth 100000 in
theorem post_X7_tries {o_number : Int64} {o_tried : Int32} {o_fields_f : (Nat → Int32)} {o_trial_f : (Nat → Int32)} {p0 : Int32} {r_o : Int32} {o_tried_o : Int32} {o_trial_f_o : (Nat → Int32)} (hv_p0 : qv (0) (114) p0) (hv_o_tried : qv (0) (20) o_tried) (hq : f_X7_tries o_number o_tried o_fields_f o_trial_f p0 = (r_o, o_tried_o, o_trial_f_o)) : qv (0) (20) o_tried_o := by
  have E := hq
  rw [f_X7_tries] at E
  have J8 : ∀ (x7 : Int32) (hv_x7 : qv (0) (1) x7), f_X7_tries_J8 o_number o_tried o_fields_f o_trial_f p0 x7 = (r_o, o_tried_o, o_trial_f_o) → qv (0) (20) o_tried_o := by
    intro x7 hv_x7 E
    rw [f_X7_tries_J8] at E
    have J15 : ∀ (x14 : Int32) (hv_x14 : qv (0) (1) x14), f_X7_tries_J15 o_number o_tried o_fields_f o_trial_f p0 x7 x14 = (r_o, o_tried_o, o_trial_f_o) → qv (0) (20) o_tried_o := by
      intro x14 hv_x14 E
      rw [f_X7_tries_J15] at E
      have J18 : ∀ (x17 : Int32) (hv_x17 : qv (0) (8) x17), f_X7_tries_J18 o_number o_tried o_fields_f o_trial_f p0 x7 x14 x17 = (r_o, o_tried_o, o_trial_f_o) → qv (0) (20) o_tried_o := by
        intro x17 hv_x17 E
        rw [f_X7_tries_J18] at E
        have J21 : ∀ (x20 : Int32), f_X7_tries_J21 o_number o_tried o_fields_f o_trial_f p0 x7 x14 x17 x20 = (r_o, o_tried_o, o_trial_f_o) → qv (0) (20) o_tried_o := by
          intro x20 E
          rw [f_X7_tries_J21] at E
          have J124 : ∀ (x117 : Int32) (hv_x117 : qv (0) (3) x117) (x118 : Int32) (x119 : Int32) (x120 : Int32) (x121 : Int32) (hv_x121 : qv (0) (1) x121) (x122 : Int32) (hv_x122 : qv (0) (1) x122) (x123 : Int32), f_X7_tries_J124 o_number o_tried o_fields_f o_trial_f p0 x117 x118 x119 x120 x121 x122 x123 = (r_o, o_tried_o, o_trial_f_o) → qv (0) (20) o_tried_o := by
            intro x117 hv_x117 x118 x119 x120 x121 hv_x121 x122 hv_x122 x123 E
            rw [f_X7_tries_J124] at E
            by_cases c125 : x123 = 0
            · rw [if_pos c125] at E
              have F0 := (qv_w (⟨hv_o_tried.1, hv_o_tried.2⟩ : qv (0) (20) o_tried) (by decide) (by decide) : qv (0) (20) o_tried)
              cases E
              exact F0
            · rw [if_neg c125] at E
              have J128 : ∀ (_ : Unit), f_X7_tries_J128 o_number o_fields_f o_trial_f p0 x118 x119 x120 x121 x122 = (r_o, o_tried_o, o_trial_f_o) → qv (0) (20) o_tried_o := by
                intro _ E
                rw [f_X7_tries_J128] at E
                have J133 : ∀ (x132 : Int32), f_X7_tries_J133 o_number o_fields_f o_trial_f p0 x118 x119 x121 x122 x132 = (r_o, o_tried_o, o_trial_f_o) → qv (0) (20) o_tried_o := by
                  intro x132 E
                  rw [f_X7_tries_J133] at E
                  have J137 : ∀ (x136 : Int32), f_X7_tries_J137 o_number o_fields_f o_trial_f p0 x118 x119 x121 x122 x136 = (r_o, o_tried_o, o_trial_f_o) → qv (0) (20) o_tried_o := by
                    intro x136 E
                    rw [f_X7_tries_J137] at E
                    have J144 : ∀ (x142 : Int32) (hv_x142 : qv (0) (1) x142) (x143 : (Nat → Int32)), f_X7_tries_J144 o_number o_fields_f p0 x118 x119 x121 x122 x136 x142 x143 = (r_o, o_tried_o, o_trial_f_o) → qv (0) (20) o_tried_o := by
                      intro x142 hv_x142 x143 E
                      rw [f_X7_tries_J144] at E
                      have J155 : ∀ (x153 : Int32) (hv_x153 : qv (0) (2) x153) (x154 : (Nat → Int32)), f_X7_tries_J155 o_number o_fields_f p0 x118 x119 x122 x153 x154 = (r_o, o_tried_o, o_trial_f_o) → qv (0) (20) o_tried_o := by
                        intro x153 hv_x153 x154 E
                        rw [f_X7_tries_J155] at E
                        have J162 : ∀ (x160 : Int32) (hv_x160 : qv (0) (3) x160) (x161 : (Nat → Int32)), f_X7_tries_J162 o_number o_fields_f p0 x118 x119 x122 x160 x161 = (r_o, o_tried_o, o_trial_f_o) → qv (0) (20) o_tried_o := by
                          intro x160 hv_x160 x161 E
                          rw [f_X7_tries_J162] at E
                          have J166 : ∀ (x165 : Int32) (hv_x165 : qv (0) (1) x165), f_X7_tries_J166 o_number o_fields_f p0 x118 x119 x122 x160 x161 x165 = (r_o, o_tried_o, o_trial_f_o) → qv (0) (20) o_tried_o := by
                            intro x165 hv_x165 E
                            rw [f_X7_tries_J166] at E
                            have J169 : ∀ (x168 : Int32), f_X7_tries_J169 o_number o_fields_f p0 x118 x119 x122 x160 x161 x165 x168 = (r_o, o_tried_o, o_trial_f_o) → qv (0) (20) o_tried_o := by
                              intro x168 E
                              rw [f_X7_tries_J169] at E
                              have J173 : ∀ (x172 : Int32), f_X7_tries_J173 o_number o_fields_f p0 x118 x119 x122 x160 x161 x172 = (r_o, o_tried_o, o_trial_f_o) → qv (0) (20) o_tried_o := by
                                intro x172 E
                                rw [f_X7_tries_J173] at E
                                obtain ⟨y174, y175, q176⟩ : ∃ y174 y175, (f_X7_put x160 x161 x172) = (y174, y175) := ⟨_, _, rfl⟩
                                rw [q176] at E
                                dsimp only at E
                                have J192 : ∀ (x190 : Int32) (hv_x190 : qv (0) (10) x190) (x191 : (Nat → Int32)), f_X7_tries_J192 o_number o_fields_f p0 x190 x191 = (r_o, o_tried_o, o_trial_f_o) → qv (0) (20) o_tried_o := by
                                  intro x190 hv_x190 x191 E
                                  rw [f_X7_tries_J192] at E
                                  obtain ⟨y193, y194, q195⟩ : ∃ y193 y194, (f_X7_putAll x190 x191 o_number (f_X7_room (rNums (p0).toNatClampNeg) (o_fields_f ((1 : Int32)).toNatClampNeg))) = (y193, y194) := ⟨_, _, rfl⟩
                                  rw [q195] at E
                                  dsimp only at E
                                  have F0 := (qv_w (⟨(post_X7_putAll (⟨hv_x190.1, hv_x190.2⟩ : qv (0) (10) x190) (⟨(post_X7_room rfl : qv (0) (8) (f_X7_room (rNums (p0).toNatClampNeg) (o_fields_f ((1 : Int32)).toNatClampNeg))).1, (post_X7_room rfl : qv (0) (8) (f_X7_room (rNums (p0).toNatClampNeg) (o_fields_f ((1 : Int32)).toNatClampNeg))).2⟩ : qv (0) (8) (f_X7_room (rNums (p0).toNatClampNeg) (o_fields_f ((1 : Int32)).toNatClampNeg))) q195 (by decide) (by decide) : qv (0) (18) y193).1, (post_X7_putAll (⟨hv_x190.1, hv_x190.2⟩ : qv (0) (10) x190) (⟨(post_X7_room rfl : qv (0) (8) (f_X7_room (rNums (p0).toNatClampNeg) (o_fields_f ((1 : Int32)).toNatClampNeg))).1, (post_X7_room rfl : qv (0) (8) (f_X7_room (rNums (p0).toNatClampNeg) (o_fields_f ((1 : Int32)).toNatClampNeg))).2⟩ : qv (0) (8) (f_X7_room (rNums (p0).toNatClampNeg) (o_fields_f ((1 : Int32)).toNatClampNeg))) q195 (by decide) (by decide) : qv (0) (18) y193).2⟩ : qv (0) (18) y193) (by decide) (by decide) : qv (0) (20) y193)
                                  cases E
                                  exact F0
                                by_cases c177 : (f_X7_hasForm (rPats (p0).toNatClampNeg)) = 0
                                · rw [if_pos c177] at E
                                  by_cases c178 : (f_X7_hasForm (rPats (p0).toNatClampNeg)) = 0
                                  · rw [if_pos c178] at E
                                    exact J192 y174 (qv_w (⟨(post_X7_put (⟨hv_x160.1, hv_x160.2⟩ : qv (0) (3) x160) q176 (by decide) (by decide) : qv (1) (4) y174).1, (post_X7_put (⟨hv_x160.1, hv_x160.2⟩ : qv (0) (3) x160) q176 (by decide) (by decide) : qv (1) (4) y174).2⟩ : qv (1) (4) y174) (by decide) (by decide)) y175 E
                                  · rw [if_neg c178] at E
                                    obtain ⟨y179, y180, q181⟩ : ∃ y179 y180, (f_X7_put y174 y175 (((192 : Int32) + ((8 : Int32) * x119)) + x118)) = (y179, y180) := ⟨_, _, rfl⟩
                                    rw [q181] at E
                                    dsimp only at E
                                    exact J192 y179 (qv_w (⟨(post_X7_put (⟨(post_X7_put (⟨hv_x160.1, hv_x160.2⟩ : qv (0) (3) x160) q176 (by decide) (by decide) : qv (1) (4) y174).1, (post_X7_put (⟨hv_x160.1, hv_x160.2⟩ : qv (0) (3) x160) q176 (by decide) (by decide) : qv (1) (4) y174).2⟩ : qv (1) (4) y174) q181 (by decide) (by decide) : qv (2) (5) y179).1, (post_X7_put (⟨(post_X7_put (⟨hv_x160.1, hv_x160.2⟩ : qv (0) (3) x160) q176 (by decide) (by decide) : qv (1) (4) y174).1, (post_X7_put (⟨hv_x160.1, hv_x160.2⟩ : qv (0) (3) x160) q176 (by decide) (by decide) : qv (1) (4) y174).2⟩ : qv (1) (4) y174) q181 (by decide) (by decide) : qv (2) (5) y179).2⟩ : qv (2) (5) y179) (by decide) (by decide)) y180 E
                                · rw [if_neg c177] at E
                                  by_cases c182 : x122 = 0
                                  · rw [if_pos c182] at E
                                    by_cases c183 : (f_X7_hasForm (rPats (p0).toNatClampNeg)) = 0
                                    · rw [if_pos c183] at E
                                      exact J192 y174 (qv_w (⟨(post_X7_put (⟨hv_x160.1, hv_x160.2⟩ : qv (0) (3) x160) q176 (by decide) (by decide) : qv (1) (4) y174).1, (post_X7_put (⟨hv_x160.1, hv_x160.2⟩ : qv (0) (3) x160) q176 (by decide) (by decide) : qv (1) (4) y174).2⟩ : qv (1) (4) y174) (by decide) (by decide)) y175 E
                                    · rw [if_neg c183] at E
                                      obtain ⟨y184, y185, q186⟩ : ∃ y184 y185, (f_X7_put y174 y175 (((192 : Int32) + ((8 : Int32) * x119)) + x118)) = (y184, y185) := ⟨_, _, rfl⟩
                                      rw [q186] at E
                                      dsimp only at E
                                      exact J192 y184 (qv_w (⟨(post_X7_put (⟨(post_X7_put (⟨hv_x160.1, hv_x160.2⟩ : qv (0) (3) x160) q176 (by decide) (by decide) : qv (1) (4) y174).1, (post_X7_put (⟨hv_x160.1, hv_x160.2⟩ : qv (0) (3) x160) q176 (by decide) (by decide) : qv (1) (4) y174).2⟩ : qv (1) (4) y174) q186 (by decide) (by decide) : qv (2) (5) y184).1, (post_X7_put (⟨(post_X7_put (⟨hv_x160.1, hv_x160.2⟩ : qv (0) (3) x160) q176 (by decide) (by decide) : qv (1) (4) y174).1, (post_X7_put (⟨hv_x160.1, hv_x160.2⟩ : qv (0) (3) x160) q176 (by decide) (by decide) : qv (1) (4) y174).2⟩ : qv (1) (4) y174) q186 (by decide) (by decide) : qv (2) (5) y184).2⟩ : qv (2) (5) y184) (by decide) (by decide)) y185 E
                                  · rw [if_neg c182] at E
                                    obtain ⟨y187, y188, q189⟩ : ∃ y187 y188, (f_X7_putMemory y174 o_fields_f y175 x119) = (y187, y188) := ⟨_, _, rfl⟩
                                    rw [q189] at E
                                    dsimp only at E
                                    exact J192 y187 (qv_w (⟨(post_X7_putMemory (qv_w (⟨(post_X7_put (⟨hv_x160.1, hv_x160.2⟩ : qv (0) (3) x160) q176 (by decide) (by decide) : qv (1) (4) y174).1, (post_X7_put (⟨hv_x160.1, hv_x160.2⟩ : qv (0) (3) x160) q176 (by decide) (by decide) : qv (1) (4) y174).2⟩ : qv (1) (4) y174) (by decide) (by decide)) q189 : qv (0) (10) y187).1, (post_X7_putMemory (qv_w (⟨(post_X7_put (⟨hv_x160.1, hv_x160.2⟩ : qv (0) (3) x160) q176 (by decide) (by decide) : qv (1) (4) y174).1, (post_X7_put (⟨hv_x160.1, hv_x160.2⟩ : qv (0) (3) x160) q176 (by decide) (by decide) : qv (1) (4) y174).2⟩ : qv (1) (4) y174) (by decide) (by decide)) q189 : qv (0) (10) y187).2⟩ : qv (0) (10) y187) (by decide) (by decide)) y188 E
                              by_cases c170 : (rPats (p0).toNatClampNeg) = (5 : Int32)
                              · rw [if_pos c170] at E
                                exact J173 ((((rCodes (p0).toNatClampNeg) + x165) + x168) + x118) E
                              · rw [if_neg c170] at E
                                by_cases c171 : (rPats (p0).toNatClampNeg) = (6 : Int32)
                                · rw [if_pos c171] at E
                                  exact J173 ((((rCodes (p0).toNatClampNeg) + x165) + x168) + x118) E
                                · rw [if_neg c171] at E
                                  exact J173 (((rCodes (p0).toNatClampNeg) + x165) + x168) E
                            by_cases c167 : (f_X7_conditional (rOps (p0).toNatClampNeg)) = 0
                            · rw [if_pos c167] at E
                              exact J169 (0 : Int32) E
                            · rw [if_neg c167] at E
                              exact J169 (o_fields_f ((2 : Int32)).toNatClampNeg) E
                          by_cases c163 : (rSizes (p0).toNatClampNeg) = 0
                          · rw [if_pos c163] at E
                            by_cases c164 : (o_fields_f ((1 : Int32)).toNatClampNeg) = (1 : Int32)
                            · rw [if_pos c164] at E
                              exact J166 (0 : Int32) (qv_w (⟨by decide, by decide⟩ : qv (0) (0) (0 : Int32)) (by decide) (by decide)) E
                            · rw [if_neg c164] at E
                              exact J166 (1 : Int32) (qv_w (⟨by decide, by decide⟩ : qv (1) (1) (1 : Int32)) (by decide) (by decide)) E
                          · rw [if_neg c163] at E
                            exact J166 (0 : Int32) (qv_w (⟨by decide, by decide⟩ : qv (0) (0) (0 : Int32)) (by decide) (by decide)) E
                        by_cases c156 : (rLeads (p0).toNatClampNeg) = (15 : Int32)
                        · rw [if_pos c156] at E
                          obtain ⟨y157, y158, q159⟩ : ∃ y157 y158, (f_X7_put x153 x154 (15 : Int32)) = (y157, y158) := ⟨_, _, rfl⟩
                          rw [q159] at E
                          dsimp only at E
                          exact J162 y157 (qv_w (⟨(post_X7_put (⟨hv_x153.1, hv_x153.2⟩ : qv (0) (2) x153) q159 (by decide) (by decide) : qv (1) (3) y157).1, (post_X7_put (⟨hv_x153.1, hv_x153.2⟩ : qv (0) (2) x153) q159 (by decide) (by decide) : qv (1) (3) y157).2⟩ : qv (1) (3) y157) (by decide) (by decide)) y158 E
                        · rw [if_neg c156] at E
                          exact J162 x153 (qv_w (⟨hv_x153.1, hv_x153.2⟩ : qv (0) (2) x153) (by decide) (by decide)) x154 E
                      by_cases c145 : x121 = 0
                      · rw [if_pos c145] at E
                        by_cases c149 : x136 ≤ 0
                        · rw [if_pos c149] at E
                          exact J155 x142 (qv_w (⟨hv_x142.1, hv_x142.2⟩ : qv (0) (1) x142) (by decide) (by decide)) x143 E
                        · rw [if_neg c149] at E
                          obtain ⟨y150, y151, q152⟩ : ∃ y150 y151, (f_X7_put x142 x143 ((64 : Int32) + x136)) = (y150, y151) := ⟨_, _, rfl⟩
                          rw [q152] at E
                          dsimp only at E
                          exact J155 y150 (qv_w (⟨(post_X7_put (⟨hv_x142.1, hv_x142.2⟩ : qv (0) (1) x142) q152 (by decide) (by decide) : qv (1) (2) y150).1, (post_X7_put (⟨hv_x142.1, hv_x142.2⟩ : qv (0) (1) x142) q152 (by decide) (by decide) : qv (1) (2) y150).2⟩ : qv (1) (2) y150) (by decide) (by decide)) y151 E
                      · rw [if_neg c145] at E
                        obtain ⟨y146, y147, q148⟩ : ∃ y146 y147, (f_X7_put x142 x143 ((64 : Int32) + x136)) = (y146, y147) := ⟨_, _, rfl⟩
                        rw [q148] at E
                        dsimp only at E
                        exact J155 y146 (qv_w (⟨(post_X7_put (⟨hv_x142.1, hv_x142.2⟩ : qv (0) (1) x142) q148 (by decide) (by decide) : qv (1) (2) y146).1, (post_X7_put (⟨hv_x142.1, hv_x142.2⟩ : qv (0) (1) x142) q148 (by decide) (by decide) : qv (1) (2) y146).2⟩ : qv (1) (2) y146) (by decide) (by decide)) y147 E
                    by_cases c138 : (rLeads (p0).toNatClampNeg) = (243 : Int32)
                    · rw [if_pos c138] at E
                      obtain ⟨y139, y140, q141⟩ : ∃ y139 y140, (f_X7_put (0 : Int32) o_trial_f (243 : Int32)) = (y139, y140) := ⟨_, _, rfl⟩
                      rw [q141] at E
                      dsimp only at E
                      exact J144 y139 (qv_w (⟨(post_X7_put (⟨by decide, by decide⟩ : qv (0) (0) (0 : Int32)) q141 (by decide) (by decide) : qv (1) (1) y139).1, (post_X7_put (⟨by decide, by decide⟩ : qv (0) (0) (0 : Int32)) q141 (by decide) (by decide) : qv (1) (1) y139).2⟩ : qv (1) (1) y139) (by decide) (by decide)) y140 E
                    · rw [if_neg c138] at E
                      exact J144 (0 : Int32) (qv_w (⟨by decide, by decide⟩ : qv (0) (0) (0 : Int32)) (by decide) (by decide)) o_trial_f E
                  by_cases c134 : x122 = 0
                  · rw [if_pos c134] at E
                    exact J137 x132 E
                  · rw [if_neg c134] at E
                    by_cases c135 : (o_fields_f ((10 : Int32)).toNatClampNeg) ≤ (7 : Int32)
                    · rw [if_pos c135] at E
                      exact J137 x132 E
                    · rw [if_neg c135] at E
                      exact J137 (x132 ||| (2 : Int32)) E
                by_cases c129 : x122 = 0
                · rw [if_pos c129] at E
                  exact J133 x120 E
                · rw [if_neg c129] at E
                  by_cases c130 : (o_fields_f ((9 : Int32)).toNatClampNeg) ≤ (7 : Int32)
                  · rw [if_pos c130] at E
                    exact J133 x120 E
                  · rw [if_neg c130] at E
                    by_cases c131 : (16 : Int32) ≤ (o_fields_f ((9 : Int32)).toNatClampNeg)
                    · rw [if_pos c131] at E
                      exact J133 x120 E
                    · rw [if_neg c131] at E
                      exact J133 (x120 ||| (1 : Int32)) E
              by_cases c126 : x122 = 0
              · rw [if_pos c126] at E
                exact J128 () E
              · rw [if_neg c126] at E
                by_cases c127 : (f_X7_isMemory o_fields_f) = 0
                · rw [if_pos c127] at E
                  have F0 := (qv_w (⟨hv_o_tried.1, hv_o_tried.2⟩ : qv (0) (20) o_tried) (by decide) (by decide) : qv (0) (20) o_tried)
                  cases E
                  exact F0
                · rw [if_neg c127] at E
                  exact J128 () E
          by_cases c22 : x7 = 0
          · rw [if_pos c22] at E
            exact J124 (0 : Int32) (qv_w (⟨by decide, by decide⟩ : qv (0) (0) (0 : Int32)) (by decide) (by decide)) (0 : Int32) x20 x17 x14 (qv_w (⟨hv_x14.1, hv_x14.2⟩ : qv (0) (1) x14) (by decide) (by decide)) (0 : Int32) (qv_w (⟨by decide, by decide⟩ : qv (0) (0) (0 : Int32)) (by decide) (by decide)) x7 E
          · rw [if_neg c22] at E
            have J25 : ∀ (x24 : Int32) (hv_x24 : qv (0) (1) x24), f_X7_tries_J25 o_number o_tried o_fields_f o_trial_f p0 x14 x17 x20 x24 = (r_o, o_tried_o, o_trial_f_o) → qv (0) (20) o_tried_o := by
              intro x24 hv_x24 E
              rw [f_X7_tries_J25] at E
              have J31 : ∀ (x30 : Int32) (hv_x30 : qv (0) (1) x30), f_X7_tries_J31 o_number o_tried o_fields_f o_trial_f p0 x14 x17 x20 x24 x30 = (r_o, o_tried_o, o_trial_f_o) → qv (0) (20) o_tried_o := by
                intro x30 hv_x30 E
                rw [f_X7_tries_J31] at E
                have J37 : ∀ (x36 : Int32) (hv_x36 : qv (0) (1) x36), f_X7_tries_J37 o_number o_tried o_fields_f o_trial_f p0 x17 x20 x24 x30 x36 = (r_o, o_tried_o, o_trial_f_o) → qv (0) (20) o_tried_o := by
                  intro x36 hv_x36 E
                  rw [f_X7_tries_J37] at E
                  have J44 : ∀ (x43 : Int32), f_X7_tries_J44 o_number o_tried o_fields_f o_trial_f p0 x20 x24 x30 x36 x43 = (r_o, o_tried_o, o_trial_f_o) → qv (0) (20) o_tried_o := by
                    intro x43 E
                    rw [f_X7_tries_J44] at E
                    have J48 : ∀ (x47 : Int32), f_X7_tries_J48 o_number o_tried o_fields_f o_trial_f p0 x24 x30 x36 x43 x47 = (r_o, o_tried_o, o_trial_f_o) → qv (0) (20) o_tried_o := by
                      intro x47 E
                      rw [f_X7_tries_J48] at E
                      have J52 : ∀ (x51 : Int32), f_X7_tries_J52 o_number o_tried o_fields_f o_trial_f p0 x24 x36 x43 x47 x51 = (r_o, o_tried_o, o_trial_f_o) → qv (0) (20) o_tried_o := by
                        intro x51 E
                        rw [f_X7_tries_J52] at E
                        by_cases c53 : (f_X7_suits o_number o_fields_f p0 (0 : Int32) (o_fields_f ((3 : Int32)).toNatClampNeg) (o_fields_f ((4 : Int32)).toNatClampNeg)) = 0
                        · rw [if_pos c53] at E
                          exact J124 (1 : Int32) (qv_w (⟨by decide, by decide⟩ : qv (1) (1) (1 : Int32)) (by decide) (by decide)) x51 x47 x43 x36 (qv_w (⟨hv_x36.1, hv_x36.2⟩ : qv (0) (1) x36) (by decide) (by decide)) x24 (qv_w (⟨hv_x24.1, hv_x24.2⟩ : qv (0) (1) x24) (by decide) (by decide)) (f_X7_suits o_number o_fields_f p0 (0 : Int32) (o_fields_f ((3 : Int32)).toNatClampNeg) (o_fields_f ((4 : Int32)).toNatClampNeg)) E
                        · rw [if_neg c53] at E
                          have J57 : ∀ (x56 : Int32) (hv_x56 : qv (0) (1) x56), f_X7_tries_J57 o_number o_tried o_fields_f o_trial_f p0 x36 x43 x47 x51 x56 = (r_o, o_tried_o, o_trial_f_o) → qv (0) (20) o_tried_o := by
                            intro x56 hv_x56 E
                            rw [f_X7_tries_J57] at E
                            have J63 : ∀ (x62 : Int32) (hv_x62 : qv (0) (1) x62), f_X7_tries_J63 o_number o_tried o_fields_f o_trial_f p0 x36 x43 x47 x51 x56 x62 = (r_o, o_tried_o, o_trial_f_o) → qv (0) (20) o_tried_o := by
                              intro x62 hv_x62 E
                              rw [f_X7_tries_J63] at E
                              have J69 : ∀ (x68 : Int32) (hv_x68 : qv (0) (1) x68), f_X7_tries_J69 o_number o_tried o_fields_f o_trial_f p0 x43 x47 x51 x56 x62 x68 = (r_o, o_tried_o, o_trial_f_o) → qv (0) (20) o_tried_o := by
                                intro x68 hv_x68 E
                                rw [f_X7_tries_J69] at E
                                have J76 : ∀ (x75 : Int32), f_X7_tries_J76 o_number o_tried o_fields_f o_trial_f p0 x47 x51 x56 x62 x68 x75 = (r_o, o_tried_o, o_trial_f_o) → qv (0) (20) o_tried_o := by
                                  intro x75 E
                                  rw [f_X7_tries_J76] at E
                                  have J80 : ∀ (x79 : Int32), f_X7_tries_J80 o_number o_tried o_fields_f o_trial_f p0 x51 x56 x62 x68 x75 x79 = (r_o, o_tried_o, o_trial_f_o) → qv (0) (20) o_tried_o := by
                                    intro x79 E
                                    rw [f_X7_tries_J80] at E
                                    have J84 : ∀ (x83 : Int32), f_X7_tries_J84 o_number o_tried o_fields_f o_trial_f p0 x56 x68 x75 x79 x83 = (r_o, o_tried_o, o_trial_f_o) → qv (0) (20) o_tried_o := by
                                      intro x83 E
                                      rw [f_X7_tries_J84] at E
                                      by_cases c85 : (f_X7_suits o_number o_fields_f p0 (1 : Int32) (o_fields_f ((5 : Int32)).toNatClampNeg) (o_fields_f ((6 : Int32)).toNatClampNeg)) = 0
                                      · rw [if_pos c85] at E
                                        exact J124 (2 : Int32) (qv_w (⟨by decide, by decide⟩ : qv (2) (2) (2 : Int32)) (by decide) (by decide)) x83 x79 x75 x68 (qv_w (⟨hv_x68.1, hv_x68.2⟩ : qv (0) (1) x68) (by decide) (by decide)) x56 (qv_w (⟨hv_x56.1, hv_x56.2⟩ : qv (0) (1) x56) (by decide) (by decide)) (f_X7_suits o_number o_fields_f p0 (1 : Int32) (o_fields_f ((5 : Int32)).toNatClampNeg) (o_fields_f ((6 : Int32)).toNatClampNeg)) E
                                      · rw [if_neg c85] at E
                                        have J89 : ∀ (x88 : Int32) (hv_x88 : qv (0) (1) x88), f_X7_tries_J89 o_number o_tried o_fields_f o_trial_f p0 x68 x75 x79 x83 x88 = (r_o, o_tried_o, o_trial_f_o) → qv (0) (20) o_tried_o := by
                                          intro x88 hv_x88 E
                                          rw [f_X7_tries_J89] at E
                                          have J95 : ∀ (x94 : Int32) (hv_x94 : qv (0) (1) x94), f_X7_tries_J95 o_number o_tried o_fields_f o_trial_f p0 x68 x75 x79 x83 x88 x94 = (r_o, o_tried_o, o_trial_f_o) → qv (0) (20) o_tried_o := by
                                            intro x94 hv_x94 E
                                            rw [f_X7_tries_J95] at E
                                            have J101 : ∀ (x100 : Int32) (hv_x100 : qv (0) (1) x100), f_X7_tries_J101 o_number o_tried o_fields_f o_trial_f p0 x75 x79 x83 x88 x94 x100 = (r_o, o_tried_o, o_trial_f_o) → qv (0) (20) o_tried_o := by
                                              intro x100 hv_x100 E
                                              rw [f_X7_tries_J101] at E
                                              have J108 : ∀ (x107 : Int32), f_X7_tries_J108 o_number o_tried o_fields_f o_trial_f p0 x79 x83 x88 x94 x100 x107 = (r_o, o_tried_o, o_trial_f_o) → qv (0) (20) o_tried_o := by
                                                intro x107 E
                                                rw [f_X7_tries_J108] at E
                                                have J112 : ∀ (x111 : Int32), f_X7_tries_J112 o_number o_tried o_fields_f o_trial_f p0 x83 x88 x94 x100 x107 x111 = (r_o, o_tried_o, o_trial_f_o) → qv (0) (20) o_tried_o := by
                                                  intro x111 E
                                                  rw [f_X7_tries_J112] at E
                                                  have J116 : ∀ (x115 : Int32), f_X7_tries_J116 o_number o_tried o_fields_f o_trial_f p0 x88 x100 x107 x111 x115 = (r_o, o_tried_o, o_trial_f_o) → qv (0) (20) o_tried_o := by
                                                    intro x115 E
                                                    rw [f_X7_tries_J116] at E
                                                    exact J124 (3 : Int32) (qv_w (⟨by decide, by decide⟩ : qv (3) (3) (3 : Int32)) (by decide) (by decide)) x115 x111 x107 x100 (qv_w (⟨hv_x100.1, hv_x100.2⟩ : qv (0) (1) x100) (by decide) (by decide)) x88 (qv_w (⟨hv_x88.1, hv_x88.2⟩ : qv (0) (1) x88) (by decide) (by decide)) (f_X7_suits o_number o_fields_f p0 (2 : Int32) (o_fields_f ((7 : Int32)).toNatClampNeg) (o_fields_f ((8 : Int32)).toNatClampNeg)) E
                                                  by_cases c113 : x94 = 0
                                                  · rw [if_pos c113] at E
                                                    exact J116 x83 E
                                                  · rw [if_neg c113] at E
                                                    by_cases c114 : (f_X7_place (rPats (p0).toNatClampNeg) (2 : Int32)) = (1 : Int32)
                                                    · rw [if_pos c114] at E
                                                      exact J116 x83 E
                                                    · rw [if_neg c114] at E
                                                      exact J116 ((o_fields_f ((8 : Int32)).toNatClampNeg) &&& (7 : Int32)) E
                                                by_cases c109 : x94 = 0
                                                · rw [if_pos c109] at E
                                                  exact J112 x79 E
                                                · rw [if_neg c109] at E
                                                  by_cases c110 : (f_X7_place (rPats (p0).toNatClampNeg) (2 : Int32)) = (1 : Int32)
                                                  · rw [if_pos c110] at E
                                                    exact J112 ((o_fields_f ((8 : Int32)).toNatClampNeg) &&& (7 : Int32)) E
                                                  · rw [if_neg c110] at E
                                                    exact J112 x79 E
                                              by_cases c102 : x94 = 0
                                              · rw [if_pos c102] at E
                                                exact J108 x75 E
                                              · rw [if_neg c102] at E
                                                by_cases c103 : (o_fields_f ((8 : Int32)).toNatClampNeg) ≤ (7 : Int32)
                                                · rw [if_pos c103] at E
                                                  exact J108 x75 E
                                                · rw [if_neg c103] at E
                                                  have J106 : ∀ (x105 : Int32) (hv_x105 : qv (1) (4) x105), f_X7_tries_J106 o_number o_tried o_fields_f o_trial_f p0 x75 x79 x83 x88 x94 x100 x105 = (r_o, o_tried_o, o_trial_f_o) → qv (0) (20) o_tried_o := by
                                                    intro x105 hv_x105 E
                                                    rw [f_X7_tries_J106] at E
                                                    exact J108 (x75 ||| x105) E
                                                  by_cases c104 : (f_X7_place (rPats (p0).toNatClampNeg) (2 : Int32)) = (1 : Int32)
                                                  · rw [if_pos c104] at E
                                                    exact J106 (4 : Int32) (qv_w (⟨by decide, by decide⟩ : qv (4) (4) (4 : Int32)) (by decide) (by decide)) E
                                                  · rw [if_neg c104] at E
                                                    exact J106 (1 : Int32) (qv_w (⟨by decide, by decide⟩ : qv (1) (1) (1 : Int32)) (by decide) (by decide)) E
                                            by_cases c96 : x94 = 0
                                            · rw [if_pos c96] at E
                                              exact J101 x68 (qv_w (⟨hv_x68.1, hv_x68.2⟩ : qv (0) (1) x68) (by decide) (by decide)) E
                                            · rw [if_neg c96] at E
                                              by_cases c97 : (f_X7_width p0 (f_X7_place (rPats (p0).toNatClampNeg) (2 : Int32)) (o_fields_f ((1 : Int32)).toNatClampNeg)) = (1 : Int32)
                                              · rw [if_pos c97] at E
                                                by_cases c98 : (o_fields_f ((8 : Int32)).toNatClampNeg) ≤ (3 : Int32)
                                                · rw [if_pos c98] at E
                                                  exact J101 x68 (qv_w (⟨hv_x68.1, hv_x68.2⟩ : qv (0) (1) x68) (by decide) (by decide)) E
                                                · rw [if_neg c98] at E
                                                  by_cases c99 : (8 : Int32) ≤ (o_fields_f ((8 : Int32)).toNatClampNeg)
                                                  · rw [if_pos c99] at E
                                                    exact J101 x68 (qv_w (⟨hv_x68.1, hv_x68.2⟩ : qv (0) (1) x68) (by decide) (by decide)) E
                                                  · rw [if_neg c99] at E
                                                    exact J101 (1 : Int32) (qv_w (⟨by decide, by decide⟩ : qv (1) (1) (1 : Int32)) (by decide) (by decide)) E
                                              · rw [if_neg c97] at E
                                                exact J101 x68 (qv_w (⟨hv_x68.1, hv_x68.2⟩ : qv (0) (1) x68) (by decide) (by decide)) E
                                          by_cases c90 : (o_fields_f ((7 : Int32)).toNatClampNeg) = (1 : Int32)
                                          · rw [if_pos c90] at E
                                            by_cases c91 : (f_X7_place (rPats (p0).toNatClampNeg) (2 : Int32)) = (1 : Int32)
                                            · rw [if_pos c91] at E
                                              exact J95 (1 : Int32) (qv_w (⟨by decide, by decide⟩ : qv (1) (1) (1 : Int32)) (by decide) (by decide)) E
                                            · rw [if_neg c91] at E
                                              by_cases c92 : (f_X7_place (rPats (p0).toNatClampNeg) (2 : Int32)) = (2 : Int32)
                                              · rw [if_pos c92] at E
                                                exact J95 (1 : Int32) (qv_w (⟨by decide, by decide⟩ : qv (1) (1) (1 : Int32)) (by decide) (by decide)) E
                                              · rw [if_neg c92] at E
                                                by_cases c93 : (f_X7_place (rPats (p0).toNatClampNeg) (2 : Int32)) = (5 : Int32)
                                                · rw [if_pos c93] at E
                                                  exact J95 (1 : Int32) (qv_w (⟨by decide, by decide⟩ : qv (1) (1) (1 : Int32)) (by decide) (by decide)) E
                                                · rw [if_neg c93] at E
                                                  exact J95 (0 : Int32) (qv_w (⟨by decide, by decide⟩ : qv (0) (0) (0 : Int32)) (by decide) (by decide)) E
                                          · rw [if_neg c90] at E
                                            exact J95 (0 : Int32) (qv_w (⟨by decide, by decide⟩ : qv (0) (0) (0 : Int32)) (by decide) (by decide)) E
                                        by_cases c86 : x56 = 0
                                        · rw [if_pos c86] at E
                                          by_cases c87 : (o_fields_f ((7 : Int32)).toNatClampNeg) = (2 : Int32)
                                          · rw [if_pos c87] at E
                                            exact J89 (1 : Int32) (qv_w (⟨by decide, by decide⟩ : qv (1) (1) (1 : Int32)) (by decide) (by decide)) E
                                          · rw [if_neg c87] at E
                                            exact J89 (0 : Int32) (qv_w (⟨by decide, by decide⟩ : qv (0) (0) (0 : Int32)) (by decide) (by decide)) E
                                        · rw [if_neg c86] at E
                                          exact J89 (1 : Int32) (qv_w (⟨by decide, by decide⟩ : qv (1) (1) (1 : Int32)) (by decide) (by decide)) E
                                    by_cases c81 : x62 = 0
                                    · rw [if_pos c81] at E
                                      exact J84 x51 E
                                    · rw [if_neg c81] at E
                                      by_cases c82 : (f_X7_place (rPats (p0).toNatClampNeg) (1 : Int32)) = (1 : Int32)
                                      · rw [if_pos c82] at E
                                        exact J84 x51 E
                                      · rw [if_neg c82] at E
                                        exact J84 ((o_fields_f ((6 : Int32)).toNatClampNeg) &&& (7 : Int32)) E
                                  by_cases c77 : x62 = 0
                                  · rw [if_pos c77] at E
                                    exact J80 x47 E
                                  · rw [if_neg c77] at E
                                    by_cases c78 : (f_X7_place (rPats (p0).toNatClampNeg) (1 : Int32)) = (1 : Int32)
                                    · rw [if_pos c78] at E
                                      exact J80 ((o_fields_f ((6 : Int32)).toNatClampNeg) &&& (7 : Int32)) E
                                    · rw [if_neg c78] at E
                                      exact J80 x47 E
                                by_cases c70 : x62 = 0
                                · rw [if_pos c70] at E
                                  exact J76 x43 E
                                · rw [if_neg c70] at E
                                  by_cases c71 : (o_fields_f ((6 : Int32)).toNatClampNeg) ≤ (7 : Int32)
                                  · rw [if_pos c71] at E
                                    exact J76 x43 E
                                  · rw [if_neg c71] at E
                                    have J74 : ∀ (x73 : Int32) (hv_x73 : qv (1) (4) x73), f_X7_tries_J74 o_number o_tried o_fields_f o_trial_f p0 x43 x47 x51 x56 x62 x68 x73 = (r_o, o_tried_o, o_trial_f_o) → qv (0) (20) o_tried_o := by
                                      intro x73 hv_x73 E
                                      rw [f_X7_tries_J74] at E
                                      exact J76 (x43 ||| x73) E
                                    by_cases c72 : (f_X7_place (rPats (p0).toNatClampNeg) (1 : Int32)) = (1 : Int32)
                                    · rw [if_pos c72] at E
                                      exact J74 (4 : Int32) (qv_w (⟨by decide, by decide⟩ : qv (4) (4) (4 : Int32)) (by decide) (by decide)) E
                                    · rw [if_neg c72] at E
                                      exact J74 (1 : Int32) (qv_w (⟨by decide, by decide⟩ : qv (1) (1) (1 : Int32)) (by decide) (by decide)) E
                              by_cases c64 : x62 = 0
                              · rw [if_pos c64] at E
                                exact J69 x36 (qv_w (⟨hv_x36.1, hv_x36.2⟩ : qv (0) (1) x36) (by decide) (by decide)) E
                              · rw [if_neg c64] at E
                                by_cases c65 : (f_X7_width p0 (f_X7_place (rPats (p0).toNatClampNeg) (1 : Int32)) (o_fields_f ((1 : Int32)).toNatClampNeg)) = (1 : Int32)
                                · rw [if_pos c65] at E
                                  by_cases c66 : (o_fields_f ((6 : Int32)).toNatClampNeg) ≤ (3 : Int32)
                                  · rw [if_pos c66] at E
                                    exact J69 x36 (qv_w (⟨hv_x36.1, hv_x36.2⟩ : qv (0) (1) x36) (by decide) (by decide)) E
                                  · rw [if_neg c66] at E
                                    by_cases c67 : (8 : Int32) ≤ (o_fields_f ((6 : Int32)).toNatClampNeg)
                                    · rw [if_pos c67] at E
                                      exact J69 x36 (qv_w (⟨hv_x36.1, hv_x36.2⟩ : qv (0) (1) x36) (by decide) (by decide)) E
                                    · rw [if_neg c67] at E
                                      exact J69 (1 : Int32) (qv_w (⟨by decide, by decide⟩ : qv (1) (1) (1 : Int32)) (by decide) (by decide)) E
                                · rw [if_neg c65] at E
                                  exact J69 x36 (qv_w (⟨hv_x36.1, hv_x36.2⟩ : qv (0) (1) x36) (by decide) (by decide)) E
                            by_cases c58 : (o_fields_f ((5 : Int32)).toNatClampNeg) = (1 : Int32)
                            · rw [if_pos c58] at E
                              by_cases c59 : (f_X7_place (rPats (p0).toNatClampNeg) (1 : Int32)) = (1 : Int32)
                              · rw [if_pos c59] at E
                                exact J63 (1 : Int32) (qv_w (⟨by decide, by decide⟩ : qv (1) (1) (1 : Int32)) (by decide) (by decide)) E
                              · rw [if_neg c59] at E
                                by_cases c60 : (f_X7_place (rPats (p0).toNatClampNeg) (1 : Int32)) = (2 : Int32)
                                · rw [if_pos c60] at E
                                  exact J63 (1 : Int32) (qv_w (⟨by decide, by decide⟩ : qv (1) (1) (1 : Int32)) (by decide) (by decide)) E
                                · rw [if_neg c60] at E
                                  by_cases c61 : (f_X7_place (rPats (p0).toNatClampNeg) (1 : Int32)) = (5 : Int32)
                                  · rw [if_pos c61] at E
                                    exact J63 (1 : Int32) (qv_w (⟨by decide, by decide⟩ : qv (1) (1) (1 : Int32)) (by decide) (by decide)) E
                                  · rw [if_neg c61] at E
                                    exact J63 (0 : Int32) (qv_w (⟨by decide, by decide⟩ : qv (0) (0) (0 : Int32)) (by decide) (by decide)) E
                            · rw [if_neg c58] at E
                              exact J63 (0 : Int32) (qv_w (⟨by decide, by decide⟩ : qv (0) (0) (0 : Int32)) (by decide) (by decide)) E
                          by_cases c54 : x24 = 0
                          · rw [if_pos c54] at E
                            by_cases c55 : (o_fields_f ((5 : Int32)).toNatClampNeg) = (2 : Int32)
                            · rw [if_pos c55] at E
                              exact J57 (1 : Int32) (qv_w (⟨by decide, by decide⟩ : qv (1) (1) (1 : Int32)) (by decide) (by decide)) E
                            · rw [if_neg c55] at E
                              exact J57 (0 : Int32) (qv_w (⟨by decide, by decide⟩ : qv (0) (0) (0 : Int32)) (by decide) (by decide)) E
                          · rw [if_neg c54] at E
                            exact J57 (1 : Int32) (qv_w (⟨by decide, by decide⟩ : qv (1) (1) (1 : Int32)) (by decide) (by decide)) E
                      by_cases c49 : x30 = 0
                      · rw [if_pos c49] at E
                        exact J52 (0 : Int32) E
                      · rw [if_neg c49] at E
                        by_cases c50 : (f_X7_place (rPats (p0).toNatClampNeg) (0 : Int32)) = (1 : Int32)
                        · rw [if_pos c50] at E
                          exact J52 (0 : Int32) E
                        · rw [if_neg c50] at E
                          exact J52 ((o_fields_f ((4 : Int32)).toNatClampNeg) &&& (7 : Int32)) E
                    by_cases c45 : x30 = 0
                    · rw [if_pos c45] at E
                      exact J48 x20 E
                    · rw [if_neg c45] at E
                      by_cases c46 : (f_X7_place (rPats (p0).toNatClampNeg) (0 : Int32)) = (1 : Int32)
                      · rw [if_pos c46] at E
                        exact J48 ((o_fields_f ((4 : Int32)).toNatClampNeg) &&& (7 : Int32)) E
                      · rw [if_neg c46] at E
                        exact J48 x20 E
                  by_cases c38 : x30 = 0
                  · rw [if_pos c38] at E
                    exact J44 x17 E
                  · rw [if_neg c38] at E
                    by_cases c39 : (o_fields_f ((4 : Int32)).toNatClampNeg) ≤ (7 : Int32)
                    · rw [if_pos c39] at E
                      exact J44 x17 E
                    · rw [if_neg c39] at E
                      have J42 : ∀ (x41 : Int32) (hv_x41 : qv (1) (4) x41), f_X7_tries_J42 o_number o_tried o_fields_f o_trial_f p0 x17 x20 x24 x30 x36 x41 = (r_o, o_tried_o, o_trial_f_o) → qv (0) (20) o_tried_o := by
                        intro x41 hv_x41 E
                        rw [f_X7_tries_J42] at E
                        exact J44 (x17 ||| x41) E
                      by_cases c40 : (f_X7_place (rPats (p0).toNatClampNeg) (0 : Int32)) = (1 : Int32)
                      · rw [if_pos c40] at E
                        exact J42 (4 : Int32) (qv_w (⟨by decide, by decide⟩ : qv (4) (4) (4 : Int32)) (by decide) (by decide)) E
                      · rw [if_neg c40] at E
                        exact J42 (1 : Int32) (qv_w (⟨by decide, by decide⟩ : qv (1) (1) (1 : Int32)) (by decide) (by decide)) E
                by_cases c32 : x30 = 0
                · rw [if_pos c32] at E
                  exact J37 x14 (qv_w (⟨hv_x14.1, hv_x14.2⟩ : qv (0) (1) x14) (by decide) (by decide)) E
                · rw [if_neg c32] at E
                  by_cases c33 : (f_X7_width p0 (f_X7_place (rPats (p0).toNatClampNeg) (0 : Int32)) (o_fields_f ((1 : Int32)).toNatClampNeg)) = (1 : Int32)
                  · rw [if_pos c33] at E
                    by_cases c34 : (o_fields_f ((4 : Int32)).toNatClampNeg) ≤ (3 : Int32)
                    · rw [if_pos c34] at E
                      exact J37 x14 (qv_w (⟨hv_x14.1, hv_x14.2⟩ : qv (0) (1) x14) (by decide) (by decide)) E
                    · rw [if_neg c34] at E
                      by_cases c35 : (8 : Int32) ≤ (o_fields_f ((4 : Int32)).toNatClampNeg)
                      · rw [if_pos c35] at E
                        exact J37 x14 (qv_w (⟨hv_x14.1, hv_x14.2⟩ : qv (0) (1) x14) (by decide) (by decide)) E
                      · rw [if_neg c35] at E
                        exact J37 (1 : Int32) (qv_w (⟨by decide, by decide⟩ : qv (1) (1) (1 : Int32)) (by decide) (by decide)) E
                  · rw [if_neg c33] at E
                    exact J37 x14 (qv_w (⟨hv_x14.1, hv_x14.2⟩ : qv (0) (1) x14) (by decide) (by decide)) E
              by_cases c26 : (o_fields_f ((3 : Int32)).toNatClampNeg) = (1 : Int32)
              · rw [if_pos c26] at E
                by_cases c27 : (f_X7_place (rPats (p0).toNatClampNeg) (0 : Int32)) = (1 : Int32)
                · rw [if_pos c27] at E
                  exact J31 (1 : Int32) (qv_w (⟨by decide, by decide⟩ : qv (1) (1) (1 : Int32)) (by decide) (by decide)) E
                · rw [if_neg c27] at E
                  by_cases c28 : (f_X7_place (rPats (p0).toNatClampNeg) (0 : Int32)) = (2 : Int32)
                  · rw [if_pos c28] at E
                    exact J31 (1 : Int32) (qv_w (⟨by decide, by decide⟩ : qv (1) (1) (1 : Int32)) (by decide) (by decide)) E
                  · rw [if_neg c28] at E
                    by_cases c29 : (f_X7_place (rPats (p0).toNatClampNeg) (0 : Int32)) = (5 : Int32)
                    · rw [if_pos c29] at E
                      exact J31 (1 : Int32) (qv_w (⟨by decide, by decide⟩ : qv (1) (1) (1 : Int32)) (by decide) (by decide)) E
                    · rw [if_neg c29] at E
                      exact J31 (0 : Int32) (qv_w (⟨by decide, by decide⟩ : qv (0) (0) (0 : Int32)) (by decide) (by decide)) E
              · rw [if_neg c26] at E
                exact J31 (0 : Int32) (qv_w (⟨by decide, by decide⟩ : qv (0) (0) (0 : Int32)) (by decide) (by decide)) E
            by_cases c23 : (o_fields_f ((3 : Int32)).toNatClampNeg) = (2 : Int32)
            · rw [if_pos c23] at E
              exact J25 (1 : Int32) (qv_w (⟨by decide, by decide⟩ : qv (1) (1) (1 : Int32)) (by decide) (by decide)) E
            · rw [if_neg c23] at E
              exact J25 (0 : Int32) (qv_w (⟨by decide, by decide⟩ : qv (0) (0) (0 : Int32)) (by decide) (by decide)) E
        by_cases c19 : (8 : Int32) ≤ (rTells (p0).toNatClampNeg)
        · rw [if_pos c19] at E
          exact J21 (0 : Int32) E
        · rw [if_neg c19] at E
          exact J21 (rTells (p0).toNatClampNeg) E
      by_cases c16 : x14 = 0
      · rw [if_pos c16] at E
        exact J18 (0 : Int32) (qv_w (⟨by decide, by decide⟩ : qv (0) (0) (0 : Int32)) (by decide) (by decide)) E
      · rw [if_neg c16] at E
        exact J18 (8 : Int32) (qv_w (⟨by decide, by decide⟩ : qv (8) (8) (8 : Int32)) (by decide) (by decide)) E
    by_cases c9 : (rSizes (p0).toNatClampNeg) = (3 : Int32)
    · rw [if_pos c9] at E
      exact J15 (1 : Int32) (qv_w (⟨by decide, by decide⟩ : qv (1) (1) (1 : Int32)) (by decide) (by decide)) E
    · rw [if_neg c9] at E
      by_cases c10 : (o_fields_f ((1 : Int32)).toNatClampNeg) = (8 : Int32)
      · rw [if_pos c10] at E
        by_cases c11 : (rSizes (p0).toNatClampNeg) = 0
        · rw [if_pos c11] at E
          exact J15 (1 : Int32) (qv_w (⟨by decide, by decide⟩ : qv (1) (1) (1 : Int32)) (by decide) (by decide)) E
        · rw [if_neg c11] at E
          by_cases c12 : (rSizes (p0).toNatClampNeg) = (1 : Int32)
          · rw [if_pos c12] at E
            exact J15 (1 : Int32) (qv_w (⟨by decide, by decide⟩ : qv (1) (1) (1 : Int32)) (by decide) (by decide)) E
          · rw [if_neg c12] at E
            by_cases c13 : (rSizes (p0).toNatClampNeg) = (7 : Int32)
            · rw [if_pos c13] at E
              exact J15 (1 : Int32) (qv_w (⟨by decide, by decide⟩ : qv (1) (1) (1 : Int32)) (by decide) (by decide)) E
            · rw [if_neg c13] at E
              exact J15 (0 : Int32) (qv_w (⟨by decide, by decide⟩ : qv (0) (0) (0 : Int32)) (by decide) (by decide)) E
      · rw [if_neg c10] at E
        exact J15 (0 : Int32) (qv_w (⟨by decide, by decide⟩ : qv (0) (0) (0 : Int32)) (by decide) (by decide)) E
  by_cases c1 : (rOps (p0).toNatClampNeg) = (o_fields_f ((0 : Int32)).toNatClampNeg)
  · rw [if_pos c1] at E
    by_cases c2 : (f_X7_allows (rSizes (p0).toNatClampNeg) (o_fields_f ((1 : Int32)).toNatClampNeg)) = 0
    · rw [if_pos c2] at E
      exact J8 (0 : Int32) (qv_w (⟨by decide, by decide⟩ : qv (0) (0) (0 : Int32)) (by decide) (by decide)) E
    · rw [if_neg c2] at E
      by_cases c3 : (f_X7_conditional (rOps (p0).toNatClampNeg)) = 0
      · rw [if_pos c3] at E
        by_cases c4 : (o_fields_f ((2 : Int32)).toNatClampNeg) = 0
        · rw [if_pos c4] at E
          exact J8 (1 : Int32) (qv_w (⟨by decide, by decide⟩ : qv (1) (1) (1 : Int32)) (by decide) (by decide)) E
        · rw [if_neg c4] at E
          exact J8 (0 : Int32) (qv_w (⟨by decide, by decide⟩ : qv (0) (0) (0 : Int32)) (by decide) (by decide)) E
      · rw [if_neg c3] at E
        by_cases c5 : (o_fields_f ((2 : Int32)).toNatClampNeg) < 0
        · rw [if_pos c5] at E
          exact J8 (0 : Int32) (qv_w (⟨by decide, by decide⟩ : qv (0) (0) (0 : Int32)) (by decide) (by decide)) E
        · rw [if_neg c5] at E
          by_cases c6 : (16 : Int32) ≤ (o_fields_f ((2 : Int32)).toNatClampNeg)
          · rw [if_pos c6] at E
            exact J8 (0 : Int32) (qv_w (⟨by decide, by decide⟩ : qv (0) (0) (0 : Int32)) (by decide) (by decide)) E
          · rw [if_neg c6] at E
            exact J8 (1 : Int32) (qv_w (⟨by decide, by decide⟩ : qv (1) (1) (1 : Int32)) (by decide) (by decide)) E
  · rw [if_neg c1] at E
    exact J8 (0 : Int32) (qv_w (⟨by decide, by decide⟩ : qv (0) (0) (0 : Int32)) (by decide) (by decide)) E
