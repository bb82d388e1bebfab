/-! names: the classes whose objects the worlds hold, the strings, the methods -/
abbrev CF : Type := String × String × Bool × Nat × Nat
/-- classes: name, place of the word of instantiable, fields: name, descriptor, final, type code (0 int, 1 long, 2 reference, 3 boolean), place of the word that lays it -/
def clF : List (String × Nat × Nat × List CF) := [
  ("NeckRider$Acts", 1172, 1004, [("codes", "[I", true, 2, 1181), ("order", "[I", true, 2, 1183), ("size", "I", false, 0, 1185)]),
  ("NeckRider$Day", 2116, 1009, [("endHour", "I", false, 0, 2127), ("choked", "I", false, 0, 2129), ("draws", "I", false, 0, 2131)]),
  ("NeckRider$Hunt", 2060, 1007, [("rides", "[LNeckRider$Ride;", true, 2, 2078), ("triedRow", "[I", true, 2, 2080), ("firstRow", "[I", true, 2, 2082), ("brookWay", "[I", true, 2, 2084), ("hour", "I", false, 0, 2086), ("rows", "I", false, 0, 2088), ("limit", "I", false, 0, 2090)]),
  ("NeckRider$Isle", 1061, 1003, [("lines", "I", false, 0, 1134), ("places", "I", false, 0, 1136), ("hours", "I", false, 0, 1138), ("weight", "I", false, 0, 1140), ("odds", "I", false, 0, 1142), ("paths", "I", false, 0, 1144), ("trees", "I", false, 0, 1146), ("vines", "I", false, 0, 1148), ("bearers", "I", false, 0, 1150), ("brookBits", "I", false, 0, 1152), ("treePlace", "[I", true, 2, 1154), ("treeFruit", "[I", true, 2, 1156), ("vinePlace", "[I", true, 2, 1158), ("vineRipe", "[I", true, 2, 1160), ("bearerHome", "[I", true, 2, 1162), ("bearerStrength", "[I", true, 2, 1164), ("besideBits", "[I", true, 2, 1166), ("wayLengths", "[I", true, 2, 1168)]),
  ("NeckRider$Ride", 1195, 1006, [("place", "I", false, 0, 1222), ("bearer", "I", false, 0, 1224), ("weight", "I", false, 0, 1226), ("soberHour", "I", false, 0, 1228), ("emptiedBits", "I", false, 0, 1230), ("fallenBits", "I", false, 0, 1232), ("endKind", "I", false, 0, 1234), ("actWorked", "Z", false, 3, 1236), ("tiredness", "[I", true, 2, 1238), ("fruitLeft", "[I", true, 2, 2000)]),
  ("NeckRider$Seen", 2094, 1008, [("pairs", "I", false, 0, 2106), ("hourBits", "I", false, 0, 2108), ("placeBits", "I", false, 0, 2110), ("tally", "[I", true, 2, 2112)]),
  ("NeckRider$Slot", 2136, 1010, [("numbers", "[J", true, 2, 2148), ("width", "I", false, 0, 2150), ("size", "I", false, 0, 2152)]),
  ("NeckRider$Story", 1189, 1005, [("ride", "LNeckRider$Ride;", true, 2, 2030), ("places", "[I", true, 2, 2032), ("bearers", "[I", true, 2, 2034), ("weights", "[I", true, 2, 2036), ("tiredness", "[I", true, 2, 2038), ("fruitLeft", "[I", true, 2, 2040), ("deeds", "[I", true, 2, 2042), ("drunken", "[I", true, 2, 2044), ("worked", "[I", true, 2, 2046), ("carried", "[I", true, 2, 2048), ("eaten", "I", false, 0, 2050), ("endHour", "I", false, 0, 2052), ("endKind", "I", false, 0, 2054), ("fallenBits", "I", false, 0, 2056)]),
  ("NeckRider$Tape", 1029, 1002, [("bytes", "[I", true, 2, 1044), ("size", "I", false, 0, 1046), ("fault", "I", false, 0, 1048), ("faultPlace", "I", false, 0, 1050), ("kind", "I", false, 0, 1052), ("start", "I", false, 0, 1054), ("stop", "I", false, 0, 1056)]),
  ("NeckRider", 1021, 1001, [("tape", "LNeckRider$Tape;", true, 2, 2174), ("isle", "LNeckRider$Isle;", true, 2, 2176), ("draft", "LNeckRider$Isle;", true, 2, 2178), ("acts", "LNeckRider$Acts;", true, 2, 2180), ("noActs", "LNeckRider$Acts;", true, 2, 2182), ("story", "LNeckRider$Story;", true, 2, 2184), ("trial", "LNeckRider$Story;", true, 2, 2186), ("plans", "LNeckRider$Hunt;", true, 2, 2188), ("guess", "LNeckRider$Hunt;", true, 2, 2190), ("seen", "LNeckRider$Seen;", true, 2, 2192), ("day", "LNeckRider$Day;", true, 2, 2194), ("slots", "[LNeckRider$Slot;", true, 2, 2196), ("keptIsles", "[LNeckRider$Isle;", true, 2, 2198), ("keptActs", "[LNeckRider$Acts;", true, 2, 2200), ("keptBits", "I", false, 0, 2202), ("plansKnown", "Z", false, 3, 2204)]),
  ("NeckRiderModel", 5237, 1011, [("thrown", "I", false, 0, 6042), ("world", "[I", true, 2, 6044), ("images", "[I", true, 2, 6046), ("hasImage", "[Z", true, 2, 6048), ("tape", "[B", true, 2, 6050), ("taped", "I", false, 0, 6052), ("five", "[I", true, 2, 6054), ("size", "I", false, 0, 6056), ("at", "I", false, 0, 6058), ("from", "I", false, 0, 6060), ("token", "I", false, 0, 6062), ("value", "I", false, 0, 6064), ("faultKind", "I", false, 0, 6066), ("faultPlace", "I", false, 0, 6068), ("fresh", "[I", true, 2, 6070), ("ways", "[I", true, 2, 6072), ("states", "[I", true, 2, 6074), ("did", "[I", true, 2, 6076), ("wasDrunk", "[I", true, 2, 6078), ("acts", "[I", true, 2, 6080), ("carried", "[I", true, 2, 6082), ("overAt", "I", false, 0, 6084), ("overHow", "I", false, 0, 6086), ("noTree", "I", false, 0, 6088), ("noVine", "I", false, 0, 6090), ("brooksToo", "I", false, 0, 6092), ("weightToo", "I", false, 0, 6094), ("strengthOf", "I", false, 0, 6096), ("strengthToo", "I", false, 0, 6098), ("row", "[I", true, 2, 6100), ("firstRow", "[I", true, 2, 6102), ("rowMany", "I", false, 0, 6104), ("pairs", "[I", true, 2, 6106), ("leftBy", "[I", true, 2, 6108), ("pairMany", "I", false, 0, 6110), ("askWorst", "I", false, 0, 6112), ("drawMany", "I", false, 0, 6114), ("many", "[I", true, 2, 6116), ("width", "[I", true, 2, 6118), ("numbers", "[J", true, 2, 6120), ("moving", "[J", true, 2, 6122)])]
def strF : List String := ["path", "tree", "vine", "brook", "bearer", "isle", "places", "hours", "weight", "odds", "to", "fruit", "ripe", "strength", "at"]
/-- the entries of the strings in the two classes that name them -/
def strT : List Nat := [61, 70, 75, 80, 89, 98, 104, 112, 116, 120, 131, 142, 153, 164, 169]
def strM : List Nat := [184, 186, 188, 190, 192, 164, 166, 172, 174, 176, 181, 197, 203, 205, 183]
/-- the lists of the tables' words -/
def wlk : Nat → List Jvm.Cond
  | 0 => k2_sels lw_privs
  | 1 => tables_1_1
  | 2 => tables_1_2
  | 3 => tables_1_3
  | 4 => tables_1_4
  | 5 => tables_1_5
  | 6 => tables_1_6
  | 7 => tables_1_7
  | 8 => tables_1_8
  | 9 => tables_1_9
  | _ => []
theorem wlk_in : ∀ (k : Nat) (w : Jvm.Cond), w ∈ wlk k → w ∈ lw_tbl := by
  intro k w h
  unfold lw_tbl tables_1
  simp only [List.mem_append]
  unfold wlk at h
  split at h
  · exact Or.inl h
  · exact Or.inr (Or.inl h)
  · exact Or.inr (Or.inr (Or.inl h))
  · exact Or.inr (Or.inr (Or.inr (Or.inl h)))
  · exact Or.inr (Or.inr (Or.inr (Or.inr (Or.inl h))))
  · exact Or.inr (Or.inr (Or.inr (Or.inr (Or.inr (Or.inl h)))))
  · exact Or.inr (Or.inr (Or.inr (Or.inr (Or.inr (Or.inr (Or.inl h))))))
  · exact Or.inr (Or.inr (Or.inr (Or.inr (Or.inr (Or.inr (Or.inr (Or.inl h)))))))
  · exact Or.inr (Or.inr (Or.inr (Or.inr (Or.inr (Or.inr (Or.inr (Or.inr (Or.inl h))))))))
  · exact Or.inr (Or.inr (Or.inr (Or.inr (Or.inr (Or.inr (Or.inr (Or.inr (Or.inr (h)))))))))
  · cases h
/-- the code that a word of the tables speaks of -/
def cwd (w : Nat) : ByteArray := match (wlk (w / 1000))[w % 1000]? with
  | some (.code _ b _ _) => b
  | _ => code
/-- methods: name, code, locals, return type, (parameters, style: 0 static 1 virtual 2 constructor, class, boolean), places of its words: code, static or instanceMethod, selects, initialized -/
abbrev MR : Type := MethodName × ByteArray × Nat × Option FieldType × (Nat × Nat × Nat × Nat) × (Nat × Nat × Nat × Nat)
abbrev RR : Type := MethodName × Nat × Option FieldType × (Nat × Nat × Nat × Nat) × (Nat × Nat × Nat × Nat)
def mkR (x : RR) : MR := (x.1, if x.2.2.2.2.1 = 0 then code else cwd x.2.2.2.2.1, x.2.1, x.2.2.1, x.2.2.2.1, x.2.2.2.2)
def mtab_0 : List MR := List.map mkR [
  (⟨"NeckRider", "<init>", "()V"⟩, 2, none, (0, 2, 9, 0), (1024, 1023, 0, 1001)),
  (⟨"NeckRider", "feed", "(IIIII)I"⟩, 6, some .int, (5, 1, 9, 1), (2210, 2208, 2209, 1001)),
  (⟨"NeckRider", "end", "(I)I"⟩, 2, some .int, (1, 1, 9, 1), (2221, 2219, 2220, 1001)),
  (⟨"NeckRider", "isle", "()I"⟩, 2, some .int, (0, 1, 9, 1), (2225, 2223, 2224, 1001)),
  (⟨"NeckRider", "fault", "(I)I"⟩, 2, some .int, (1, 1, 9, 1), (4015, 4013, 4014, 1001)),
  (⟨"NeckRider", "tree", "(II)I"⟩, 3, some .int, (2, 1, 9, 1), (4019, 4017, 4018, 1001)),
  (⟨"NeckRider", "vine", "(II)I"⟩, 3, some .int, (2, 1, 9, 1), (4027, 4025, 4026, 1001)),
  (⟨"NeckRider", "bearer", "(II)I"⟩, 3, some .int, (2, 1, 9, 1), (4031, 4029, 4030, 1001)),
  (⟨"NeckRider", "brooks", "()I"⟩, 1, some .int, (0, 1, 9, 1), (4035, 4033, 4034, 1001)),
  (⟨"NeckRider", "way", "(II)I"⟩, 3, some .int, (2, 1, 9, 1), (4043, 4041, 4042, 1001)),
  (⟨"NeckRider", "beside", "(I)I"⟩, 2, some .int, (1, 1, 9, 1), (4052, 4050, 4051, 1001)),
  (⟨"NeckRider", "steers", "(I)I"⟩, 2, some .int, (1, 1, 9, 1), (4056, 4054, 4055, 1001)),
  (⟨"NeckRider", "reach", "(I)I"⟩, 2, some .int, (1, 1, 9, 1), (4061, 4059, 4060, 1001)),
  (⟨"NeckRider", "lone", "()I"⟩, 4, some .int, (0, 1, 9, 1), (4069, 4067, 4068, 1001)),
  (⟨"NeckRider", "at", "(I)I"⟩, 2, some .int, (1, 1, 9, 1), (4074, 4072, 4073, 1001)),
  (⟨"NeckRider", "on", "(I)I"⟩, 2, some .int, (1, 1, 9, 1), (4082, 4080, 4081, 1001)),
  (⟨"NeckRider", "weighs", "(I)I"⟩, 2, some .int, (1, 1, 9, 1), (4086, 4084, 4085, 1001)),
  (⟨"NeckRider", "tired", "(II)I"⟩, 3, some .int, (2, 1, 9, 1), (4090, 4088, 4089, 1001)),
  (⟨"NeckRider", "fruit", "(II)I"⟩, 3, some .int, (2, 1, 9, 1), (4098, 4096, 4097, 1001)),
  (⟨"NeckRider", "does", "(I)I"⟩, 2, some .int, (1, 1, 9, 1), (4106, 4104, 4105, 1001)),
  (⟨"NeckRider", "drunk", "(I)I"⟩, 2, some .int, (1, 1, 9, 1), (4114, 4112, 4113, 1001)),
  (⟨"NeckRider", "over", "()I"⟩, 1, some .int, (0, 1, 9, 1), (4118, 4116, 4117, 1001)),
  (⟨"NeckRider", "how", "()I"⟩, 1, some .int, (0, 1, 9, 1), (4122, 4120, 4121, 1001)),
  (⟨"NeckRider", "eats", "()I"⟩, 1, some .int, (0, 1, 9, 1), (4126, 4124, 4125, 1001)),
  (⟨"NeckRider", "carries", "(I)I"⟩, 2, some .int, (1, 1, 9, 1), (4130, 4128, 4129, 1001)),
  (⟨"NeckRider", "fallen", "()I"⟩, 1, some .int, (0, 1, 9, 1), (4134, 4132, 4133, 1001)),
  (⟨"NeckRider", "worst", "()I"⟩, 5, some .int, (0, 1, 9, 1), (4138, 4136, 4137, 1001)),
  (⟨"NeckRider", "share", "(II)I"⟩, 5, some .int, (2, 1, 9, 1), (4142, 4140, 4141, 1001)),
  (⟨"NeckRider", "comes", "(I)I"⟩, 3, some .int, (1, 1, 9, 1), (4149, 4147, 4148, 1001)),
  (⟨"NeckRider", "stays", "(I)I"⟩, 4, some .int, (1, 1, 9, 1), (4153, 4151, 4152, 1001)),
  (⟨"NeckRider", "left", "(I)I"⟩, 4, some .int, (1, 1, 9, 1), (4157, 4155, 4156, 1001)),
  (⟨"NeckRider", "peak", "(I)I"⟩, 4, some .int, (1, 1, 9, 1), (4161, 4159, 4160, 1001)),
  (⟨"NeckRider", "hungry", "()I"⟩, 2, some .int, (0, 1, 9, 1), (4166, 4164, 4165, 1001)),
  (⟨"NeckRider", "ripens", "(I)I"⟩, 4, some .int, (1, 1, 9, 1), (4170, 4168, 4169, 1001)),
  (⟨"NeckRider", "from", "(I)I"⟩, 2, some .int, (1, 1, 9, 1), (4174, 4172, 4173, 1001)),
  (⟨"NeckRider", "best", "()I"⟩, 5, some .int, (0, 1, 9, 1), (4182, 4180, 4181, 1001)),
  (⟨"NeckRider", "needs", "(I)I"⟩, 3, some .int, (1, 1, 9, 1), (4189, 4187, 4188, 1001)),
  (⟨"NeckRider", "drops", "()I"⟩, 2, some .int, (0, 1, 9, 1), (4194, 4192, 4193, 1001)),
  (⟨"NeckRider", "rid", "()I"⟩, 1, some .int, (0, 1, 9, 1), (4198, 4196, 4197, 1001)),
  (⟨"NeckRider", "ways", "()I"⟩, 1, some .int, (0, 1, 9, 1), (4239, 4237, 4238, 1001))]
def mtab_1 : List MR := List.map mkR [
  (⟨"NeckRider", "plan", "(I)I"⟩, 3, some .int, (1, 1, 9, 1), (5003, 5001, 5002, 1001)),
  (⟨"NeckRider", "wine", "()I"⟩, 5, some .int, (0, 1, 9, 1), (5007, 5005, 5006, 1001)),
  (⟨"NeckRider", "bend", "()I"⟩, 5, some .int, (0, 1, 9, 1), (5015, 5013, 5014, 1001)),
  (⟨"NeckRider", "bent", "(I)I"⟩, 2, some .int, (1, 1, 9, 1), (5023, 5021, 5022, 1001)),
  (⟨"NeckRider", "dam", "(I)I"⟩, 2, some .int, (1, 1, 9, 1), (5027, 5025, 5026, 1001)),
  (⟨"NeckRider", "dams", "()I"⟩, 5, some .int, (0, 1, 9, 1), (5035, 5033, 5034, 1001)),
  (⟨"NeckRider", "fits", "(I)I"⟩, 3, some .int, (1, 1, 9, 1), (5039, 5037, 5038, 1001)),
  (⟨"NeckRider", "rode", "(I)I"⟩, 3, some .int, (1, 1, 9, 1), (5069, 5067, 5068, 1001)),
  (⟨"NeckRider", "began", "(I)I"⟩, 3, some .int, (1, 1, 9, 1), (5073, 5071, 5072, 1001)),
  (⟨"NeckRider", "ask", "(I)I"⟩, 3, some .int, (1, 1, 9, 1), (5077, 5075, 5076, 1001)),
  (⟨"NeckRider", "leaves", "(I)I"⟩, 4, some .int, (1, 1, 9, 1), (5091, 5089, 5090, 1001)),
  (⟨"NeckRider", "rests", "(II)I"⟩, 3, some .int, (2, 1, 9, 1), (5096, 5094, 5095, 1001)),
  (⟨"NeckRider", "signs", "(III)I"⟩, 6, some .int, (3, 1, 9, 1), (5103, 5101, 5102, 1001)),
  (⟨"NeckRider", "asked", "(IIII)I"⟩, 6, some .int, (4, 1, 9, 1), (5107, 5105, 5106, 1001)),
  (⟨"NeckRider", "trust", "(III)I"⟩, 5, some .int, (3, 1, 9, 1), (5114, 5112, 5113, 1001)),
  (⟨"NeckRider", "chance", "(I)J"⟩, 2, some .long, (1, 1, 9, 2), (5118, 5116, 5117, 1001)),
  (⟨"NeckRider", "sure", "(I)I"⟩, 5, some .int, (1, 1, 9, 1), (5127, 5125, 5126, 1001)),
  (⟨"NeckRider", "drawn", "(II)I"⟩, 3, some .int, (2, 1, 9, 1), (5132, 5130, 5131, 1001)),
  (⟨"NeckRider", "luck", "(II)I"⟩, 5, some .int, (2, 1, 9, 1), (5147, 5145, 5146, 1001)),
  (⟨"NeckRider", "offer", "(I)I"⟩, 2, some .int, (1, 1, 9, 1), (5151, 5149, 5150, 1001)),
  (⟨"NeckRider", "carry", "(II)I"⟩, 3, some .int, (2, 1, 9, 1), (5165, 5163, 5164, 1001)),
  (⟨"NeckRider", "toss", "(I)I"⟩, 2, some .int, (1, 1, 9, 1), (5169, 5167, 5168, 1001)),
  (⟨"NeckRider", "undo", "()I"⟩, 1, some .int, (0, 1, 9, 1), (5173, 5171, 5172, 1001)),
  (⟨"NeckRider", "anew", "()I"⟩, 2, some .int, (0, 1, 9, 1), (5181, 5179, 5180, 1001)),
  (⟨"NeckRider", "grow", "(II)I"⟩, 4, some .int, (2, 1, 9, 1), (5185, 5183, 5184, 1001)),
  (⟨"NeckRider", "count", "(I)I"⟩, 2, some .int, (1, 1, 9, 1), (5189, 5187, 5188, 1001)),
  (⟨"NeckRider", "image", "(I)I"⟩, 2, some .int, (1, 1, 9, 1), (5197, 5195, 5196, 1001)),
  (⟨"NeckRider", "back", "(I)I"⟩, 2, some .int, (1, 1, 9, 1), (5206, 5204, 5205, 1001)),
  (⟨"NeckRider", "row", "(III)I"⟩, 4, some .int, (3, 1, 9, 1), (5210, 5208, 5209, 1001)),
  (⟨"NeckRider", "write", "(IIJ)I"⟩, 6, some .int, (3, 1, 9, 1), (5218, 5216, 5217, 1001)),
  (⟨"NeckRider", "paste", "(IIIII)I"⟩, 8, some .int, (5, 1, 9, 1), (5230, 5228, 5229, 1001)),
  (⟨"NeckRider", "within", "(II)Z"⟩, 2, some .boolean, (2, 0, 9, 3), (4022, 4021, 0, 1001)),
  (⟨"NeckRider", "isPlace", "(I)Z"⟩, 2, some .boolean, (1, 1, 9, 3), (4047, 4046, 42, 1001)),
  (⟨"NeckRider", "isHour", "(I)Z"⟩, 2, some .boolean, (1, 1, 9, 3), (4110, 4109, 47, 1001)),
  (⟨"NeckRider", "isMoment", "(I)Z"⟩, 2, some .boolean, (1, 1, 9, 3), (4078, 4077, 44, 1001)),
  (⟨"NeckRider", "isleChanged", "()V"⟩, 1, none, (0, 1, 9, 0), (3165, 3164, 23, 1001)),
  (⟨"NeckRider", "act", "(II)I"⟩, 3, some .int, (2, 1, 9, 1), (5155, 5154, 66, 1001)),
  (⟨"NeckRider", "endFrom", "(I)I"⟩, 2, some .int, (1, 1, 9, 1), (4178, 4177, 48, 1001)),
  (⟨"NeckRider", "lateness", "(I)I"⟩, 1, some .int, (1, 0, 9, 1), (4185, 4184, 0, 1001)),
  (⟨"NeckRider", "knownPlans", "()LNeckRider$Hunt;"⟩, 1, some (.object "NeckRider$Hunt"), (0, 1, 9, 4), (4202, 4201, 49, 1001))]
def mtab_2 : List MR := List.map mkR [
  (⟨"NeckRider", "ridWithoutVine", "(I)I"⟩, 2, some .int, (1, 1, 9, 1), (5011, 5010, 55, 1001)),
  (⟨"NeckRider", "ridWithoutTree", "(I)I"⟩, 2, some .int, (1, 1, 9, 1), (5019, 5018, 56, 1001)),
  (⟨"NeckRider", "ridWithBrook", "(I)I"⟩, 2, some .int, (1, 1, 9, 1), (5031, 5030, 57, 1001)),
  (⟨"NeckRider", "lookAt", "(I)I"⟩, 5, some .int, (1, 1, 9, 1), (5043, 5042, 58, 1001)),
  (⟨"NeckRider", "rowsHeld", "()I"⟩, 3, some .int, (0, 1, 9, 1), (5193, 5192, 69, 1001)),
  (⟨"NeckRiderModel", "<init>", "()V"⟩, 1, none, (0, 2, 10, 0), (6000, 5239, 0, 1011)),
  (⟨"NeckRiderModel", "in", "(JJJ)Z"⟩, 6, some .boolean, (3, 0, 10, 3), (6133, 6132, 0, 1011)),
  (⟨"NeckRiderModel", "bit", "(II)I"⟩, 2, some .int, (2, 0, 10, 1), (7124, 7123, 0, 1011)),
  (⟨"NeckRiderModel", "image", "(I)I"⟩, 3, some .int, (1, 1, 10, 1), (6129, 6127, 6128, 1011)),
  (⟨"NeckRiderModel", "back", "(I)I"⟩, 3, some .int, (1, 1, 10, 1), (6137, 6135, 6136, 1011)),
  (⟨"NeckRiderModel", "isIsle", "()Z"⟩, 1, some .boolean, (0, 1, 10, 3), (7028, 7027, 93, 1011)),
  (⟨"NeckRiderModel", "isPlace", "(J)Z"⟩, 3, some .boolean, (1, 1, 10, 3), (7049, 7048, 97, 1011)),
  (⟨"NeckRiderModel", "isHour", "(I)Z"⟩, 2, some .boolean, (1, 1, 10, 3), (7185, 7184, 120, 1011)),
  (⟨"NeckRiderModel", "isBeginning", "(I)Z"⟩, 2, some .boolean, (1, 1, 10, 3), (7161, 7160, 119, 1011)),
  (⟨"NeckRiderModel", "isTree", "(J)Z"⟩, 3, some .boolean, (1, 1, 10, 3), (7004, 7003, 90, 1011)),
  (⟨"NeckRiderModel", "isVine", "(I)Z"⟩, 2, some .boolean, (1, 1, 10, 3), (7012, 7011, 91, 1011)),
  (⟨"NeckRiderModel", "isBearer", "(I)Z"⟩, 2, some .boolean, (1, 1, 10, 3), (7020, 7019, 92, 1011)),
  (⟨"NeckRiderModel", "treeAt", "(I)I"⟩, 2, some .int, (1, 1, 10, 1), (7073, 7072, 100, 1011)),
  (⟨"NeckRiderModel", "vineAt", "(I)I"⟩, 2, some .int, (1, 1, 10, 1), (7121, 7120, 111, 1011)),
  (⟨"NeckRiderModel", "homeOf", "(I)I"⟩, 2, some .int, (1, 1, 10, 1), (7069, 7068, 99, 1011)),
  (⟨"NeckRiderModel", "feed", "(IIIII)I"⟩, 7, some .int, (5, 1, 10, 1), (6141, 6139, 6140, 1011)),
  (⟨"NeckRiderModel", "end", "(I)I"⟩, 2, some .int, (1, 1, 10, 1), (6145, 6143, 6144, 1011)),
  (⟨"NeckRiderModel", "see", "(I)I"⟩, 2, some .int, (1, 1, 10, 1), (6161, 6160, 76, 1011)),
  (⟨"NeckRiderModel", "advance", "()V"⟩, 2, none, (0, 1, 10, 0), (6157, 6156, 75, 1011)),
  (⟨"NeckRiderModel", "good", "()Z"⟩, 1, some .boolean, (0, 1, 10, 3), (6171, 6170, 77, 1011)),
  (⟨"NeckRiderModel", "errs", "(I)V"⟩, 2, none, (1, 1, 10, 0), (6198, 6197, 83, 1011)),
  (⟨"NeckRiderModel", "is", "(Ljava/lang/String;)Z"⟩, 4, some .boolean, (1, 1, 10, 3), (6192, 6191, 82, 1011)),
  (⟨"NeckRiderModel", "takes", "(Ljava/lang/String;)Z"⟩, 3, some .boolean, (1, 1, 10, 3), (6188, 6187, 81, 1011)),
  (⟨"NeckRiderModel", "needs", "(Ljava/lang/String;)V"⟩, 2, none, (1, 1, 10, 0), (6184, 6183, 80, 1011)),
  (⟨"NeckRiderModel", "number", "(II)I"⟩, 4, some .int, (2, 1, 10, 1), (6207, 6206, 85, 1011)),
  (⟨"NeckRiderModel", "told", "(Ljava/lang/String;II)I"⟩, 4, some .int, (3, 1, 10, 1), (6203, 6202, 84, 1011)),
  (⟨"NeckRiderModel", "fault", "(I)I"⟩, 2, some .int, (1, 1, 10, 1), (6149, 6147, 6148, 1011)),
  (⟨"NeckRiderModel", "freshPlace", "()I"⟩, 1, some .int, (0, 1, 10, 1), (6227, 6226, 88, 1011)),
  (⟨"NeckRiderModel", "readFirst", "()V"⟩, 1, none, (0, 1, 10, 0), (6179, 6178, 79, 1011)),
  (⟨"NeckRiderModel", "readPath", "()V"⟩, 2, none, (0, 1, 10, 0), (6223, 6222, 87, 1011)),
  (⟨"NeckRiderModel", "readAt", "(IILjava/lang/String;II)V"⟩, 7, none, (5, 1, 10, 0), (6233, 6232, 89, 1011)),
  (⟨"NeckRiderModel", "readNext", "()V"⟩, 3, none, (0, 1, 10, 0), (6214, 6213, 86, 1011)),
  (⟨"NeckRiderModel", "readLine", "()V"⟩, 1, none, (0, 1, 10, 0), (6175, 6174, 78, 1011)),
  (⟨"NeckRiderModel", "isle", "()I"⟩, 2, some .int, (0, 1, 10, 1), (6153, 6151, 6152, 1011)),
  (⟨"NeckRiderModel", "tree", "(II)I"⟩, 3, some .int, (2, 1, 10, 1), (7000, 6238, 6239, 1011))]
def mtab_3 : List MR := List.map mkR [
  (⟨"NeckRiderModel", "vine", "(II)I"⟩, 3, some .int, (2, 1, 10, 1), (7008, 7006, 7007, 1011)),
  (⟨"NeckRiderModel", "bearer", "(II)I"⟩, 3, some .int, (2, 1, 10, 1), (7016, 7014, 7015, 1011)),
  (⟨"NeckRiderModel", "brooks", "()I"⟩, 1, some .int, (0, 1, 10, 1), (7024, 7022, 7023, 1011)),
  (⟨"NeckRiderModel", "wayOf", "(II)I"⟩, 3, some .int, (2, 1, 10, 1), (7045, 7044, 96, 1011)),
  (⟨"NeckRiderModel", "layWays", "()V"⟩, 5, none, (0, 1, 10, 0), (7040, 7039, 95, 1011)),
  (⟨"NeckRiderModel", "asksPlace", "(I)Z"⟩, 2, some .boolean, (1, 1, 10, 3), (7036, 7035, 94, 1011)),
  (⟨"NeckRiderModel", "way", "(II)I"⟩, 3, some .int, (2, 1, 10, 1), (7032, 7030, 7031, 1011)),
  (⟨"NeckRiderModel", "withinOf", "(III)I"⟩, 6, some .int, (3, 1, 10, 1), (7057, 7056, 98, 1011)),
  (⟨"NeckRiderModel", "beside", "(I)I"⟩, 2, some .int, (1, 1, 10, 1), (7053, 7051, 7052, 1011)),
  (⟨"NeckRiderModel", "reach", "(I)I"⟩, 2, some .int, (1, 1, 10, 1), (7061, 7059, 7060, 1011)),
  (⟨"NeckRiderModel", "lone", "()I"⟩, 3, some .int, (0, 1, 10, 1), (7065, 7063, 7064, 1011)),
  (⟨"NeckRiderModel", "of", "(II)I"⟩, 3, some .int, (2, 1, 10, 1), (7113, 7112, 109, 1011)),
  (⟨"NeckRiderModel", "set", "(III)V"⟩, 4, none, (3, 1, 10, 0), (7101, 7100, 106, 1011)),
  (⟨"NeckRiderModel", "isThere", "(I)Z"⟩, 2, some .boolean, (1, 1, 10, 3), (7137, 7136, 114, 1011)),
  (⟨"NeckRiderModel", "begin", "(II)V"⟩, 4, none, (2, 1, 10, 0), (7097, 7096, 105, 1011)),
  (⟨"NeckRiderModel", "steersFrom", "(II)I"⟩, 5, some .int, (2, 1, 10, 1), (7133, 7132, 113, 1011)),
  (⟨"NeckRiderModel", "vineFor", "(II)I"⟩, 4, some .int, (2, 1, 10, 1), (7117, 7116, 110, 1011)),
  (⟨"NeckRiderModel", "canBe", "(II)Z"⟩, 4, some .boolean, (2, 1, 10, 3), (7109, 7108, 108, 1011)),
  (⟨"NeckRiderModel", "strength", "(I)I"⟩, 2, some .int, (1, 1, 10, 1), (7145, 7144, 116, 1011)),
  (⟨"NeckRiderModel", "carryTo", "(II)V"⟩, 7, none, (2, 1, 10, 0), (7141, 7140, 115, 1011)),
  (⟨"NeckRiderModel", "over", "(II)V"⟩, 3, none, (2, 1, 10, 0), (7149, 7148, 117, 1011)),
  (⟨"NeckRiderModel", "eatOrGo", "(I)V"⟩, 6, none, (1, 1, 10, 0), (7129, 7128, 112, 1011)),
  (⟨"NeckRiderModel", "goHour", "(II)V"⟩, 6, none, (2, 1, 10, 0), (7105, 7104, 107, 1011)),
  (⟨"NeckRiderModel", "asItIs", "()V"⟩, 2, none, (0, 1, 10, 0), (7085, 7084, 102, 1011)),
  (⟨"NeckRiderModel", "goFrom", "(II)V"⟩, 4, none, (2, 1, 10, 0), (7093, 7092, 104, 1011)),
  (⟨"NeckRiderModel", "goAll", "()V"⟩, 2, none, (0, 1, 10, 0), (7089, 7088, 103, 1011)),
  (⟨"NeckRiderModel", "asksIsle", "()Z"⟩, 1, some .boolean, (0, 1, 10, 3), (7081, 7080, 101, 1011)),
  (⟨"NeckRiderModel", "asksBeginning", "(I)Z"⟩, 2, some .boolean, (1, 1, 10, 3), (7157, 7156, 118, 1011)),
  (⟨"NeckRiderModel", "steers", "(I)I"⟩, 2, some .int, (1, 1, 10, 1), (7077, 7075, 7076, 1011)),
  (⟨"NeckRiderModel", "at", "(I)I"⟩, 2, some .int, (1, 1, 10, 1), (7153, 7151, 7152, 1011)),
  (⟨"NeckRiderModel", "on", "(I)I"⟩, 2, some .int, (1, 1, 10, 1), (7165, 7163, 7164, 1011)),
  (⟨"NeckRiderModel", "weighs", "(I)I"⟩, 2, some .int, (1, 1, 10, 1), (7169, 7167, 7168, 1011)),
  (⟨"NeckRiderModel", "tired", "(II)I"⟩, 3, some .int, (2, 1, 10, 1), (7173, 7171, 7172, 1011)),
  (⟨"NeckRiderModel", "fruit", "(II)I"⟩, 3, some .int, (2, 1, 10, 1), (7177, 7175, 7176, 1011)),
  (⟨"NeckRiderModel", "does", "(I)I"⟩, 2, some .int, (1, 1, 10, 1), (7181, 7179, 7180, 1011)),
  (⟨"NeckRiderModel", "drunk", "(I)I"⟩, 2, some .int, (1, 1, 10, 1), (7189, 7187, 7188, 1011)),
  (⟨"NeckRiderModel", "over", "()I"⟩, 1, some .int, (0, 1, 10, 1), (7193, 7191, 7192, 1011)),
  (⟨"NeckRiderModel", "how", "()I"⟩, 1, some .int, (0, 1, 10, 1), (7197, 7195, 7196, 1011)),
  (⟨"NeckRiderModel", "eatsTo", "(I)I"⟩, 4, some .int, (1, 1, 10, 1), (7205, 7204, 121, 1011)),
  (⟨"NeckRiderModel", "eats", "()I"⟩, 1, some .int, (0, 1, 10, 1), (7201, 7199, 7200, 1011))]
def mtab_4 : List MR := List.map mkR [
  (⟨"NeckRiderModel", "carries", "(I)I"⟩, 2, some .int, (1, 1, 10, 1), (7209, 7207, 7208, 1011)),
  (⟨"NeckRiderModel", "fallen", "()I"⟩, 1, some .int, (0, 1, 10, 1), (7213, 7211, 7212, 1011)),
  (⟨"NeckRiderModel", "worst", "()I"⟩, 4, some .int, (0, 1, 10, 1), (7217, 7215, 7216, 1011)),
  (⟨"NeckRiderModel", "divisor", "(JJ)J"⟩, 10, some .long, (2, 0, 10, 2), (7227, 7226, 0, 1011)),
  (⟨"NeckRiderModel", "part", "(JJI)J"⟩, 5, some .long, (3, 0, 10, 2), (7224, 7223, 0, 1011)),
  (⟨"NeckRiderModel", "share", "(II)I"⟩, 5, some .int, (2, 1, 10, 1), (7221, 7219, 7220, 1011)),
  (⟨"NeckRiderModel", "staysIn", "(I)I"⟩, 4, some .int, (1, 1, 10, 1), (7235, 7234, 122, 1011)),
  (⟨"NeckRiderModel", "stays", "(I)I"⟩, 2, some .int, (1, 1, 10, 1), (7231, 7229, 7230, 1011)),
  (⟨"NeckRiderModel", "firstOf", "(I)I"⟩, 2, some .int, (1, 0, 10, 1), (8002, 8001, 0, 1011)),
  (⟨"NeckRiderModel", "comes", "(I)I"⟩, 2, some .int, (1, 1, 10, 1), (7239, 7237, 7238, 1011)),
  (⟨"NeckRiderModel", "left", "(I)I"⟩, 4, some .int, (1, 1, 10, 1), (8006, 8004, 8005, 1011)),
  (⟨"NeckRiderModel", "peak", "(I)I"⟩, 4, some .int, (1, 1, 10, 1), (8010, 8008, 8009, 1011)),
  (⟨"NeckRiderModel", "hungry", "()I"⟩, 2, some .int, (0, 1, 10, 1), (8014, 8012, 8013, 1011)),
  (⟨"NeckRiderModel", "ripens", "(I)I"⟩, 3, some .int, (1, 1, 10, 1), (8018, 8016, 8017, 1011)),
  (⟨"NeckRiderModel", "noActs", "()V"⟩, 2, none, (0, 1, 10, 0), (8030, 8029, 124, 1011)),
  (⟨"NeckRiderModel", "fromOf", "(I)I"⟩, 2, some .int, (1, 1, 10, 1), (8026, 8025, 123, 1011)),
  (⟨"NeckRiderModel", "from", "(I)I"⟩, 2, some .int, (1, 1, 10, 1), (8022, 8020, 8021, 1011)),
  (⟨"NeckRiderModel", "best", "()I"⟩, 5, some .int, (0, 1, 10, 1), (8034, 8032, 8033, 1011)),
  (⟨"NeckRiderModel", "nextAct", "(II)I"⟩, 4, some .int, (2, 1, 10, 1), (8054, 8053, 128, 1011)),
  (⟨"NeckRiderModel", "hasWine", "(II)Z"⟩, 4, some .boolean, (2, 1, 10, 3), (8058, 8057, 129, 1011)),
  (⟨"NeckRiderModel", "goRows", "(I)I"⟩, 4, some .int, (1, 1, 10, 1), (8050, 8049, 127, 1011)),
  (⟨"NeckRiderModel", "ridOf", "()I"⟩, 2, some .int, (0, 1, 10, 1), (8046, 8045, 126, 1011)),
  (⟨"NeckRiderModel", "asksPlans", "()Z"⟩, 1, some .boolean, (0, 1, 10, 3), (8042, 8041, 125, 1011)),
  (⟨"NeckRiderModel", "rid", "()I"⟩, 1, some .int, (0, 1, 10, 1), (8038, 8036, 8037, 1011)),
  (⟨"NeckRiderModel", "ways", "()I"⟩, 1, some .int, (0, 1, 10, 1), (8062, 8060, 8061, 1011)),
  (⟨"NeckRiderModel", "plan", "(I)I"⟩, 3, some .int, (1, 1, 10, 1), (8066, 8064, 8065, 1011)),
  (⟨"NeckRiderModel", "lateRid", "()I"⟩, 2, some .int, (0, 1, 10, 1), (8074, 8073, 130, 1011)),
  (⟨"NeckRiderModel", "wine", "()I"⟩, 5, some .int, (0, 1, 10, 1), (8070, 8068, 8069, 1011)),
  (⟨"NeckRiderModel", "bend", "()I"⟩, 5, some .int, (0, 1, 10, 1), (8078, 8076, 8077, 1011)),
  (⟨"NeckRiderModel", "bent", "(I)I"⟩, 2, some .int, (1, 1, 10, 1), (8082, 8080, 8081, 1011)),
  (⟨"NeckRiderModel", "dam", "(I)I"⟩, 2, some .int, (1, 1, 10, 1), (8086, 8084, 8085, 1011)),
  (⟨"NeckRiderModel", "dams", "()I"⟩, 5, some .int, (0, 1, 10, 1), (8090, 8088, 8089, 1011)),
  (⟨"NeckRiderModel", "needs", "(I)I"⟩, 2, some .int, (1, 1, 10, 1), (8094, 8092, 8093, 1011)),
  (⟨"NeckRiderModel", "drops", "()I"⟩, 1, some .int, (0, 1, 10, 1), (8098, 8096, 8097, 1011)),
  (⟨"NeckRiderModel", "numberAt", "(II)J"⟩, 3, some .long, (2, 1, 10, 2), (8114, 8113, 132, 1011)),
  (⟨"NeckRiderModel", "layPairs", "(I)I"⟩, 6, some .int, (1, 1, 10, 1), (8106, 8105, 131, 1011)),
  (⟨"NeckRiderModel", "fits", "(I)I"⟩, 3, some .int, (1, 1, 10, 1), (8102, 8100, 8101, 1011)),
  (⟨"NeckRiderModel", "rode", "(I)I"⟩, 5, some .int, (1, 1, 10, 1), (8119, 8117, 8118, 1011)),
  (⟨"NeckRiderModel", "began", "(I)I"⟩, 5, some .int, (1, 1, 10, 1), (8123, 8121, 8122, 1011)),
  (⟨"NeckRiderModel", "askOf", "()I"⟩, 7, some .int, (0, 1, 10, 1), (8131, 8130, 133, 1011))]
def mtab_5 : List MR := List.map mkR [
  (⟨"NeckRiderModel", "ask", "(I)I"⟩, 3, some .int, (1, 1, 10, 1), (8127, 8125, 8126, 1011)),
  (⟨"NeckRiderModel", "leaves", "(I)I"⟩, 3, some .int, (1, 1, 10, 1), (8135, 8133, 8134, 1011)),
  (⟨"NeckRiderModel", "rider", "(ZZI)I"⟩, 3, some .int, (3, 0, 10, 1), (8146, 8145, 0, 1011)),
  (⟨"NeckRiderModel", "ridden", "(ZZI)I"⟩, 3, some .int, (3, 0, 10, 1), (8149, 8148, 0, 1011)),
  (⟨"NeckRiderModel", "isRest", "(ZZII)Z"⟩, 4, some .boolean, (4, 0, 10, 3), (8143, 8142, 0, 1011)),
  (⟨"NeckRiderModel", "rests", "(II)I"⟩, 5, some .int, (2, 1, 10, 1), (8139, 8137, 8138, 1011)),
  (⟨"NeckRiderModel", "signs", "(III)I"⟩, 7, some .int, (3, 1, 10, 1), (8153, 8151, 8152, 1011)),
  (⟨"NeckRiderModel", "isNewcomers", "(II)Z"⟩, 2, some .boolean, (2, 0, 10, 3), (8164, 8163, 0, 1011)),
  (⟨"NeckRiderModel", "asked", "(IIII)I"⟩, 6, some .int, (4, 1, 10, 1), (8161, 8159, 8160, 1011)),
  (⟨"NeckRiderModel", "trust", "(III)I"⟩, 5, some .int, (3, 1, 10, 1), (8169, 8167, 8168, 1011)),
  (⟨"NeckRiderModel", "power", "(JI)J"⟩, 6, some .long, (2, 0, 10, 2), (8178, 8177, 0, 1011)),
  (⟨"NeckRiderModel", "chance", "(I)J"⟩, 3, some .long, (1, 1, 10, 2), (8174, 8172, 8173, 1011)),
  (⟨"NeckRiderModel", "sure", "(I)I"⟩, 3, some .int, (1, 1, 10, 1), (8182, 8180, 8181, 1011)),
  (⟨"NeckRiderModel", "hasAct", "(I)Z"⟩, 3, some .boolean, (1, 1, 10, 3), (8194, 8193, 135, 1011)),
  (⟨"NeckRiderModel", "keepAct", "(II)I"⟩, 3, some .int, (2, 1, 10, 1), (8190, 8189, 134, 1011)),
  (⟨"NeckRiderModel", "offer", "(I)I"⟩, 2, some .int, (1, 1, 10, 1), (8186, 8184, 8185, 1011)),
  (⟨"NeckRiderModel", "carry", "(II)I"⟩, 3, some .int, (2, 1, 10, 1), (8198, 8196, 8197, 1011)),
  (⟨"NeckRiderModel", "toss", "(I)I"⟩, 2, some .int, (1, 1, 10, 1), (8202, 8200, 8201, 1011)),
  (⟨"NeckRiderModel", "undo", "()I"⟩, 1, some .int, (0, 1, 10, 1), (8206, 8204, 8205, 1011)),
  (⟨"NeckRiderModel", "anew", "()I"⟩, 2, some .int, (0, 1, 10, 1), (8210, 8208, 8209, 1011)),
  (⟨"NeckRiderModel", "goDrawn", "(J)Z"⟩, 6, some .boolean, (1, 1, 10, 3), (8222, 8221, 136, 1011)),
  (⟨"NeckRiderModel", "isSeed", "(I)Z"⟩, 1, some .boolean, (1, 0, 10, 3), (8217, 8216, 0, 1011)),
  (⟨"NeckRiderModel", "drawn", "(II)I"⟩, 4, some .int, (2, 1, 10, 1), (8214, 8212, 8213, 1011)),
  (⟨"NeckRiderModel", "luck", "(II)I"⟩, 5, some .int, (2, 1, 10, 1), (8230, 8228, 8229, 1011)),
  (⟨"NeckRiderModel", "grow", "(II)I"⟩, 4, some .int, (2, 1, 10, 1), (8235, 8233, 8234, 1011)),
  (⟨"NeckRiderModel", "count", "(I)I"⟩, 4, some .int, (1, 1, 10, 1), (8239, 8237, 8238, 1011)),
  (⟨"NeckRiderModel", "isSlot", "(I)Z"⟩, 1, some .boolean, (1, 0, 10, 3), (8109, 8108, 0, 1011)),
  (⟨"NeckRiderModel", "cut", "(JI)J"⟩, 4, some .long, (2, 0, 10, 2), (9010, 9009, 0, 1011)),
  (⟨"NeckRiderModel", "row", "(III)I"⟩, 5, some .int, (3, 1, 10, 1), (9003, 9001, 9002, 1011)),
  (⟨"NeckRiderModel", "write", "(IIJ)I"⟩, 5, some .int, (3, 1, 10, 1), (9007, 9005, 9006, 1011)),
  (⟨"NeckRiderModel", "paste", "(IIIII)I"⟩, 7, some .int, (5, 1, 10, 1), (9014, 9012, 9013, 1011)),
  (⟨"NeckRider$Acts", "<init>", "()V"⟩, 1, none, (0, 2, 0, 0), (1175, 1174, 0, 1004)),
  (⟨"NeckRider$Acts", "codeIn", "(I)I"⟩, 2, some .int, (1, 1, 0, 1), (3190, 3189, 28, 1004)),
  (⟨"NeckRider$Acts", "add", "(II)V"⟩, 3, none, (2, 1, 0, 0), (5160, 5159, 67, 1004)),
  (⟨"NeckRider$Acts", "dropLatest", "()V"⟩, 1, none, (0, 1, 0, 0), (5177, 5176, 68, 1004)),
  (⟨"NeckRider$Acts", "clear", "()V"⟩, 1, none, (0, 1, 0, 0), (3160, 3159, 22, 1004)),
  (⟨"NeckRider$Acts", "copyFrom", "(LNeckRider$Acts;)V"⟩, 2, none, (1, 1, 0, 0), (5201, 5200, 70, 1004)),
  (⟨"NeckRider$Cells", "get", "([II)I"⟩, 2, some .int, (2, 0, 99, 1), (3109, 3108, 0, 1012)),
  (⟨"NeckRider$Cells", "put", "([III)V"⟩, 3, none, (3, 0, 99, 0), (2217, 2216, 0, 1012)),
  (⟨"NeckRider$Cells", "add", "([III)V"⟩, 3, none, (3, 0, 99, 0), (3220, 3219, 0, 1012))]
def mtab_6 : List MR := List.map mkR [
  (⟨"NeckRider$Cells", "fill", "([II)V"⟩, 3, none, (2, 0, 99, 0), (2236, 2235, 0, 1012)),
  (⟨"NeckRider$Cells", "copy", "([I[I)V"⟩, 2, none, (2, 0, 99, 0), (3152, 3151, 0, 1012)),
  (⟨"NeckRider$Cells", "bit", "(II)Z"⟩, 2, some .boolean, (2, 0, 99, 3), (3145, 3144, 0, 1012)),
  (⟨"NeckRider$Day", "<init>", "()V"⟩, 1, none, (0, 2, 1, 0), (2119, 2118, 0, 1009)),
  (⟨"NeckRider$Day", "pass", "(LNeckRider$Isle;LNeckRider$Story;I)V"⟩, 7, none, (3, 1, 1, 0), (5137, 5136, 65, 1009)),
  (⟨"NeckRider$Hunt", "<init>", "()V"⟩, 2, none, (0, 2, 2, 0), (2063, 2062, 0, 1007)),
  (⟨"NeckRider$Hunt", "search", "(LNeckRider$Isle;)V"⟩, 3, none, (1, 1, 2, 0), (4206, 4205, 50, 1007)),
  (⟨"NeckRider$Hunt", "wayToBrook", "(LNeckRider$Isle;I)I"⟩, 5, some .int, (2, 0, 2, 1), (4210, 4209, 0, 1007)),
  (⟨"NeckRider$Hunt", "seek", "(LNeckRider$Isle;I)V"⟩, 6, none, (2, 1, 2, 0), (4219, 4218, 51, 1007)),
  (⟨"NeckRider$Hunt", "found", "(I)V"⟩, 3, none, (1, 1, 2, 0), (4235, 4234, 54, 1007)),
  (⟨"NeckRider$Hunt", "soonestThrow", "(LNeckRider$Isle;LNeckRider$Ride;I)I"⟩, 14, some .int, (3, 1, 2, 1), (4223, 4222, 52, 1007)),
  (⟨"NeckRider$Isle", "<init>", "()V"⟩, 1, none, (0, 2, 3, 0), (1064, 1063, 0, 1003)),
  (⟨"NeckRider$Isle", "isTold", "()Z"⟩, 1, some .boolean, (0, 1, 3, 3), (4039, 4038, 41, 1003)),
  (⟨"NeckRider$Isle", "clear", "()V"⟩, 1, none, (0, 1, 3, 0), (2233, 2232, 2, 1003)),
  (⟨"NeckRider$Isle", "copyFrom", "(LNeckRider$Isle;)V"⟩, 2, none, (1, 1, 3, 0), (3149, 3148, 21, 1003)),
  (⟨"NeckRider$Isle", "addPath", "(II)V"⟩, 3, none, (2, 1, 3, 0), (3106, 3105, 14, 1003)),
  (⟨"NeckRider$Isle", "measure", "()V"⟩, 2, none, (0, 1, 3, 0), (3138, 3137, 19, 1003)),
  (⟨"NeckRider$Isle", "measureFrom", "(I)V"⟩, 7, none, (1, 1, 3, 0), (3142, 3141, 20, 1003)),
  (⟨"NeckRider$Isle", "homeOf", "(I)I"⟩, 2, some .int, (1, 1, 3, 1), (3169, 3168, 24, 1003)),
  (⟨"NeckRider$Isle", "wayBetween", "(II)I"⟩, 3, some .int, (2, 1, 3, 1), (3232, 3231, 37, 1003)),
  (⟨"NeckRider$Isle", "reachBits", "(I)I"⟩, 4, some .int, (1, 1, 3, 1), (4065, 4064, 43, 1003)),
  (⟨"NeckRider$Isle", "steering", "(I[I)I"⟩, 7, some .int, (2, 1, 3, 1), (3228, 3227, 36, 1003)),
  (⟨"NeckRider$Isle", "firstStep", "(II)I"⟩, 6, some .int, (2, 1, 3, 1), (4004, 4003, 39, 1003)),
  (⟨"NeckRider$Isle", "strongestAt", "(II)I"⟩, 8, some .int, (2, 1, 3, 1), (3224, 3223, 35, 1003)),
  (⟨"NeckRider$Isle", "ripeVineAt", "(III)I"⟩, 7, some .int, (3, 1, 3, 1), (3203, 3202, 31, 1003)),
  (⟨"NeckRider$Ride", "<init>", "()V"⟩, 1, none, (0, 2, 4, 0), (1198, 1197, 0, 1006)),
  (⟨"NeckRider$Ride", "begin", "(LNeckRider$Isle;II)V"⟩, 5, none, (3, 1, 4, 0), (3178, 3177, 26, 1006)),
  (⟨"NeckRider$Ride", "copyFrom", "(LNeckRider$Ride;)V"⟩, 2, none, (1, 1, 4, 0), (4230, 4229, 53, 1006)),
  (⟨"NeckRider$Ride", "isDrunkIn", "(I)Z"⟩, 2, some .boolean, (1, 1, 4, 3), (3207, 3206, 32, 1006)),
  (⟨"NeckRider$Ride", "allows", "(LNeckRider$Isle;II)Z"⟩, 5, some .boolean, (3, 1, 4, 3), (3199, 3198, 30, 1006)),
  (⟨"NeckRider$Ride", "pass", "(LNeckRider$Isle;II)I"⟩, 7, some .int, (3, 1, 4, 1), (3195, 3194, 29, 1006)),
  (⟨"NeckRider$Ride", "eatOf", "(I)V"⟩, 2, none, (1, 1, 4, 0), (3236, 3235, 38, 1006)),
  (⟨"NeckRider$Ride", "carryTo", "(LNeckRider$Isle;I)V"⟩, 3, none, (2, 1, 4, 0), (3217, 3216, 34, 1006)),
  (⟨"NeckRider$Ride", "finish", "(I)V"⟩, 2, none, (1, 1, 4, 0), (3213, 3212, 33, 1006)),
  (⟨"NeckRider$Seen", "<init>", "()V"⟩, 1, none, (0, 2, 5, 0), (2097, 2096, 0, 1008)),
  (⟨"NeckRider$Seen", "isSound", "(LNeckRider$Isle;LNeckRider$Slot;)Z"⟩, 5, some .boolean, (2, 1, 5, 3), (5047, 5046, 59, 1008)),
  (⟨"NeckRider$Seen", "clear", "()V"⟩, 1, none, (0, 1, 5, 0), (5055, 5054, 61, 1008)),
  (⟨"NeckRider$Seen", "gather", "(LNeckRider$Isle;LNeckRider$Slot;LNeckRider$Story;I)V"⟩, 7, none, (4, 1, 5, 0), (5060, 5059, 62, 1008)),
  (⟨"NeckRider$Seen", "fitsIn", "(LNeckRider$Slot;LNeckRider$Story;I)Z"⟩, 4, some .boolean, (3, 0, 5, 3), (5063, 5062, 0, 1008)),
  (⟨"NeckRider$Seen", "mostAlike", "(I)I"⟩, 4, some .int, (1, 1, 5, 1), (5085, 5084, 64, 1008))]
def mtab_7 : List MR := List.map mkR [
  (⟨"NeckRider$Seen", "bestTree", "(I)I"⟩, 6, some .int, (1, 1, 5, 1), (5081, 5080, 63, 1008)),
  (⟨"NeckRider$Slot", "<init>", "()V"⟩, 1, none, (0, 2, 6, 0), (2139, 2138, 0, 1010)),
  (⟨"NeckRider$Slot", "renew", "(II)V"⟩, 4, none, (2, 1, 6, 0), (5214, 5213, 71, 1010)),
  (⟨"NeckRider$Slot", "number", "(I)J"⟩, 2, some .long, (1, 1, 6, 2), (5051, 5050, 60, 1010)),
  (⟨"NeckRider$Slot", "set", "(IJ)V"⟩, 4, none, (2, 1, 6, 0), (5222, 5221, 72, 1010)),
  (⟨"NeckRider$Slot", "cut", "(J)J"⟩, 3, some .long, (1, 1, 6, 2), (5226, 5225, 73, 1010)),
  (⟨"NeckRider$Slot", "spans", "(II)Z"⟩, 3, some .boolean, (2, 1, 6, 3), (5234, 5233, 74, 1010)),
  (⟨"NeckRider$Story", "<init>", "()V"⟩, 1, none, (0, 2, 7, 0), (1192, 1191, 0, 1005)),
  (⟨"NeckRider$Story", "tell", "(LNeckRider$Isle;LNeckRider$Acts;II)V"⟩, 8, none, (4, 1, 7, 0), (3173, 3172, 25, 1005)),
  (⟨"NeckRider$Story", "noteDeed", "(III)V"⟩, 4, none, (3, 1, 7, 0), (4008, 4007, 40, 1005)),
  (⟨"NeckRider$Story", "note", "(I)V"⟩, 4, none, (1, 1, 7, 0), (3184, 3183, 27, 1005)),
  (⟨"NeckRider$Story", "tiredOf", "(II)I"⟩, 3, some .int, (2, 1, 7, 1), (4094, 4093, 45, 1005)),
  (⟨"NeckRider$Story", "fruitOf", "(II)I"⟩, 3, some .int, (2, 1, 7, 1), (4102, 4101, 46, 1005)),
  (⟨"NeckRider$Sums", "lowest", "(JJI)J"⟩, 12, some .long, (3, 0, 99, 2), (4145, 4144, 0, 1019)),
  (⟨"NeckRider$Sums", "power", "(JI)J"⟩, 6, some .long, (2, 0, 99, 2), (5123, 5122, 0, 1019)),
  (⟨"NeckRider$Sums", "askers", "(III)I"⟩, 3, some .int, (3, 0, 99, 1), (5110, 5109, 0, 1019)),
  (⟨"NeckRider$Sums", "restBits", "(II)I"⟩, 6, some .int, (2, 0, 99, 1), (5099, 5098, 0, 1019)),
  (⟨"NeckRider$Tape", "<init>", "()V"⟩, 1, none, (0, 2, 8, 0), (1032, 1031, 0, 1002)),
  (⟨"NeckRider$Tape", "push", "(I)V"⟩, 3, none, (1, 1, 8, 0), (2214, 2213, 0, 1002)),
  (⟨"NeckRider$Tape", "readInto", "(LNeckRider$Isle;)Z"⟩, 3, some .boolean, (1, 1, 8, 3), (2229, 2228, 1, 1002)),
  (⟨"NeckRider$Tape", "readLine", "(LNeckRider$Isle;)V"⟩, 2, none, (1, 1, 8, 0), (3011, 3010, 5, 1002)),
  (⟨"NeckRider$Tape", "readFirst", "(LNeckRider$Isle;)V"⟩, 2, none, (1, 1, 8, 0), (3015, 3014, 6, 1002)),
  (⟨"NeckRider$Tape", "readPath", "(LNeckRider$Isle;)V"⟩, 4, none, (1, 1, 8, 0), (3097, 3096, 12, 1002)),
  (⟨"NeckRider$Tape", "readTree", "(LNeckRider$Isle;)V"⟩, 2, none, (1, 1, 8, 0), (3115, 3114, 15, 1002)),
  (⟨"NeckRider$Tape", "readVine", "(LNeckRider$Isle;)V"⟩, 2, none, (1, 1, 8, 0), (3126, 3125, 17, 1002)),
  (⟨"NeckRider$Tape", "readBearer", "(LNeckRider$Isle;)V"⟩, 2, none, (1, 1, 8, 0), (3133, 3132, 18, 1002)),
  (⟨"NeckRider$Tape", "blameAbove", "(II)V"⟩, 3, none, (2, 1, 8, 0), (3101, 3100, 13, 1002)),
  (⟨"NeckRider$Tape", "blame", "(I)V"⟩, 2, none, (1, 1, 8, 0), (3076, 3075, 9, 1002)),
  (⟨"NeckRider$Tape", "takePlace", "(LNeckRider$Isle;)I"⟩, 2, some .int, (1, 1, 8, 1), (3119, 3118, 16, 1002)),
  (⟨"NeckRider$Tape", "takeWord", "(Ljava/lang/String;)V"⟩, 2, none, (1, 1, 8, 0), (3020, 3019, 7, 1002)),
  (⟨"NeckRider$Tape", "takeNumber", "(III)I"⟩, 5, some .int, (3, 1, 8, 1), (3081, 3080, 10, 1002)),
  (⟨"NeckRider$Tape", "byteAt", "(I)I"⟩, 2, some .int, (1, 1, 8, 1), (3004, 3003, 4, 1002)),
  (⟨"NeckRider$Tape", "nextToken", "()V"⟩, 2, none, (0, 1, 8, 0), (3000, 2239, 3, 1002)),
  (⟨"NeckRider$Tape", "kindOf", "(I)I"⟩, 1, some .int, (1, 0, 8, 1), (3007, 3006, 0, 1002)),
  (⟨"NeckRider$Tape", "isWord", "(Ljava/lang/String;)Z"⟩, 3, some .boolean, (1, 1, 8, 3), (3024, 3023, 8, 1002)),
  (⟨"NeckRider$Tape", "tokenValue", "()I"⟩, 3, some .int, (0, 1, 8, 1), (3085, 3084, 11, 1002)),
  (⟨"NeckRiderLaw", "law", "([I)Z"⟩, 4, some .boolean, (1, 0, 99, 3), (0, 0, 0, 0))]
def mtab : List MR := mtab_0 ++ (mtab_1 ++ (mtab_2 ++ (mtab_3 ++ (mtab_4 ++ (mtab_5 ++ (mtab_6 ++ (mtab_7)))))))
theorem mtab_R {M : MR} (h : M ∈ mtab) : ∃ x : RR, M = mkR x := by
  simp only [mtab, mtab_0, mtab_1, mtab_2, mtab_3, mtab_4, mtab_5, mtab_6, mtab_7, List.mem_append, List.mem_map] at h
  rcases h with ⟨x, -, rfl⟩ | ⟨x, -, rfl⟩ | ⟨x, -, rfl⟩ | ⟨x, -, rfl⟩ | ⟨x, -, rfl⟩ | ⟨x, -, rfl⟩ | ⟨x, -, rfl⟩ | ⟨x, -, rfl⟩
  · exact ⟨x, rfl⟩
  · exact ⟨x, rfl⟩
  · exact ⟨x, rfl⟩
  · exact ⟨x, rfl⟩
  · exact ⟨x, rfl⟩
  · exact ⟨x, rfl⟩
  · exact ⟨x, rfl⟩
  · exact ⟨x, rfl⟩
/-- what the machine needs of a method: locals, arguments, style, class, boolean -/
def mins : List (Nat × Nat × Nat × Nat × Nat) := [(2, 1, 2, 9, 0), (6, 6, 1, 9, 1), (2, 2, 1, 9, 1), (2, 1, 1, 9, 1), (2, 2, 1, 9, 1), (3, 3, 1, 9, 1), (3, 3, 1, 9, 1), (3, 3, 1, 9, 1), (1, 1, 1, 9, 1), (3, 3, 1, 9, 1), (2, 2, 1, 9, 1), (2, 2, 1, 9, 1), (2, 2, 1, 9, 1), (4, 1, 1, 9, 1), (2, 2, 1, 9, 1), (2, 2, 1, 9, 1), (2, 2, 1, 9, 1), (3, 3, 1, 9, 1), (3, 3, 1, 9, 1), (2, 2, 1, 9, 1), (2, 2, 1, 9, 1), (1, 1, 1, 9, 1), (1, 1, 1, 9, 1), (1, 1, 1, 9, 1), (2, 2, 1, 9, 1), (1, 1, 1, 9, 1), (5, 1, 1, 9, 1), (5, 3, 1, 9, 1), (3, 2, 1, 9, 1), (4, 2, 1, 9, 1), (4, 2, 1, 9, 1), (4, 2, 1, 9, 1), (2, 1, 1, 9, 1), (4, 2, 1, 9, 1), (2, 2, 1, 9, 1), (5, 1, 1, 9, 1), (3, 2, 1, 9, 1), (2, 1, 1, 9, 1), (1, 1, 1, 9, 1), (1, 1, 1, 9, 1), (3, 2, 1, 9, 1), (5, 1, 1, 9, 1), (5, 1, 1, 9, 1), (2, 2, 1, 9, 1), (2, 2, 1, 9, 1), (5, 1, 1, 9, 1), (3, 2, 1, 9, 1), (3, 2, 1, 9, 1), (3, 2, 1, 9, 1), (3, 2, 1, 9, 1), (4, 2, 1, 9, 1), (3, 3, 1, 9, 1), (6, 4, 1, 9, 1), (6, 5, 1, 9, 1), (5, 4, 1, 9, 1), (2, 2, 1, 9, 2), (5, 2, 1, 9, 1), (3, 3, 1, 9, 1), (5, 3, 1, 9, 1), (2, 2, 1, 9, 1), (3, 3, 1, 9, 1), (2, 2, 1, 9, 1), (1, 1, 1, 9, 1), (2, 1, 1, 9, 1), (4, 3, 1, 9, 1), (2, 2, 1, 9, 1), (2, 2, 1, 9, 1), (2, 2, 1, 9, 1), (4, 4, 1, 9, 1), (6, 4, 1, 9, 1), (8, 6, 1, 9, 1), (2, 2, 0, 9, 3), (2, 2, 1, 9, 3), (2, 2, 1, 9, 3), (2, 2, 1, 9, 3), (1, 1, 1, 9, 0), (3, 3, 1, 9, 1), (2, 2, 1, 9, 1), (1, 1, 0, 9, 1), (1, 1, 1, 9, 4), (2, 2, 1, 9, 1), (2, 2, 1, 9, 1), (2, 2, 1, 9, 1), (5, 2, 1, 9, 1), (3, 1, 1, 9, 1), (1, 1, 2, 10, 0), (6, 3, 0, 10, 3), (2, 2, 0, 10, 1), (3, 2, 1, 10, 1), (3, 2, 1, 10, 1), (1, 1, 1, 10, 3), (3, 2, 1, 10, 3), (2, 2, 1, 10, 3), (2, 2, 1, 10, 3), (3, 2, 1, 10, 3), (2, 2, 1, 10, 3), (2, 2, 1, 10, 3), (2, 2, 1, 10, 1), (2, 2, 1, 10, 1), (2, 2, 1, 10, 1), (7, 6, 1, 10, 1), (2, 2, 1, 10, 1), (2, 2, 1, 10, 1), (2, 1, 1, 10, 0), (1, 1, 1, 10, 3), (2, 2, 1, 10, 0), (4, 2, 1, 10, 3), (3, 2, 1, 10, 3), (2, 2, 1, 10, 0), (4, 3, 1, 10, 1), (4, 4, 1, 10, 1), (2, 2, 1, 10, 1), (1, 1, 1, 10, 1), (1, 1, 1, 10, 0), (2, 1, 1, 10, 0), (7, 6, 1, 10, 0), (3, 1, 1, 10, 0), (1, 1, 1, 10, 0), (2, 1, 1, 10, 1), (3, 3, 1, 10, 1), (3, 3, 1, 10, 1), (3, 3, 1, 10, 1), (1, 1, 1, 10, 1), (3, 3, 1, 10, 1), (5, 1, 1, 10, 0), (2, 2, 1, 10, 3), (3, 3, 1, 10, 1), (6, 4, 1, 10, 1), (2, 2, 1, 10, 1), (2, 2, 1, 10, 1), (3, 1, 1, 10, 1), (3, 3, 1, 10, 1), (4, 4, 1, 10, 0), (2, 2, 1, 10, 3), (4, 3, 1, 10, 0), (5, 3, 1, 10, 1), (4, 3, 1, 10, 1), (4, 3, 1, 10, 3), (2, 2, 1, 10, 1), (7, 3, 1, 10, 0), (3, 3, 1, 10, 0), (6, 2, 1, 10, 0), (6, 3, 1, 10, 0), (2, 1, 1, 10, 0), (4, 3, 1, 10, 0), (2, 1, 1, 10, 0), (1, 1, 1, 10, 3), (2, 2, 1, 10, 3), (2, 2, 1, 10, 1), (2, 2, 1, 10, 1), (2, 2, 1, 10, 1), (2, 2, 1, 10, 1), (3, 3, 1, 10, 1), (3, 3, 1, 10, 1), (2, 2, 1, 10, 1), (2, 2, 1, 10, 1), (1, 1, 1, 10, 1), (1, 1, 1, 10, 1), (4, 2, 1, 10, 1), (1, 1, 1, 10, 1), (2, 2, 1, 10, 1), (1, 1, 1, 10, 1), (4, 1, 1, 10, 1), (10, 2, 0, 10, 2), (5, 3, 0, 10, 2), (5, 3, 1, 10, 1), (4, 2, 1, 10, 1), (2, 2, 1, 10, 1), (2, 1, 0, 10, 1), (2, 2, 1, 10, 1), (4, 2, 1, 10, 1), (4, 2, 1, 10, 1), (2, 1, 1, 10, 1), (3, 2, 1, 10, 1), (2, 1, 1, 10, 0), (2, 2, 1, 10, 1), (2, 2, 1, 10, 1), (5, 1, 1, 10, 1), (4, 3, 1, 10, 1), (4, 3, 1, 10, 3), (4, 2, 1, 10, 1), (2, 1, 1, 10, 1), (1, 1, 1, 10, 3), (1, 1, 1, 10, 1), (1, 1, 1, 10, 1), (3, 2, 1, 10, 1), (2, 1, 1, 10, 1), (5, 1, 1, 10, 1), (5, 1, 1, 10, 1), (2, 2, 1, 10, 1), (2, 2, 1, 10, 1), (5, 1, 1, 10, 1), (2, 2, 1, 10, 1), (1, 1, 1, 10, 1), (3, 3, 1, 10, 2), (6, 2, 1, 10, 1), (3, 2, 1, 10, 1), (5, 2, 1, 10, 1), (5, 2, 1, 10, 1), (7, 1, 1, 10, 1), (3, 2, 1, 10, 1), (3, 2, 1, 10, 1), (3, 3, 0, 10, 1), (3, 3, 0, 10, 1), (4, 4, 0, 10, 3), (5, 3, 1, 10, 1), (7, 4, 1, 10, 1), (2, 2, 0, 10, 3), (6, 5, 1, 10, 1), (5, 4, 1, 10, 1), (6, 2, 0, 10, 2), (3, 2, 1, 10, 2), (3, 2, 1, 10, 1), (3, 2, 1, 10, 3), (3, 3, 1, 10, 1), (2, 2, 1, 10, 1), (3, 3, 1, 10, 1), (2, 2, 1, 10, 1), (1, 1, 1, 10, 1), (2, 1, 1, 10, 1), (6, 2, 1, 10, 3), (1, 1, 0, 10, 3), (4, 3, 1, 10, 1), (5, 3, 1, 10, 1), (4, 3, 1, 10, 1), (4, 2, 1, 10, 1), (1, 1, 0, 10, 3), (4, 2, 0, 10, 2), (5, 4, 1, 10, 1), (5, 4, 1, 10, 1), (7, 6, 1, 10, 1), (1, 1, 2, 0, 0), (2, 2, 1, 0, 1), (3, 3, 1, 0, 0), (1, 1, 1, 0, 0), (1, 1, 1, 0, 0), (2, 2, 1, 0, 0), (2, 2, 0, 99, 1), (3, 3, 0, 99, 0), (3, 3, 0, 99, 0), (3, 2, 0, 99, 0), (2, 2, 0, 99, 0), (2, 2, 0, 99, 3), (1, 1, 2, 1, 0), (7, 4, 1, 1, 0), (2, 1, 2, 2, 0), (3, 2, 1, 2, 0), (5, 2, 0, 2, 1), (6, 3, 1, 2, 0), (3, 2, 1, 2, 0), (14, 4, 1, 2, 1), (1, 1, 2, 3, 0), (1, 1, 1, 3, 3), (1, 1, 1, 3, 0), (2, 2, 1, 3, 0), (3, 3, 1, 3, 0), (2, 1, 1, 3, 0), (7, 2, 1, 3, 0), (2, 2, 1, 3, 1), (3, 3, 1, 3, 1), (4, 2, 1, 3, 1), (7, 3, 1, 3, 1), (6, 3, 1, 3, 1), (8, 3, 1, 3, 1), (7, 4, 1, 3, 1), (1, 1, 2, 4, 0), (5, 4, 1, 4, 0), (2, 2, 1, 4, 0), (2, 2, 1, 4, 3), (5, 4, 1, 4, 3), (7, 4, 1, 4, 1), (2, 2, 1, 4, 0), (3, 3, 1, 4, 0), (2, 2, 1, 4, 0), (1, 1, 2, 5, 0), (5, 3, 1, 5, 3), (1, 1, 1, 5, 0), (7, 5, 1, 5, 0), (4, 3, 0, 5, 3), (4, 2, 1, 5, 1), (6, 2, 1, 5, 1), (1, 1, 2, 6, 0), (4, 3, 1, 6, 0), (2, 2, 1, 6, 2), (4, 3, 1, 6, 0), (3, 2, 1, 6, 2), (3, 3, 1, 6, 3), (1, 1, 2, 7, 0), (8, 5, 1, 7, 0), (4, 4, 1, 7, 0), (4, 2, 1, 7, 0), (3, 3, 1, 7, 1), (3, 3, 1, 7, 1), (12, 3, 0, 99, 2), (6, 2, 0, 99, 2), (3, 3, 0, 99, 1), (6, 2, 0, 99, 1), (1, 1, 2, 8, 0), (3, 2, 1, 8, 0), (3, 2, 1, 8, 3), (2, 2, 1, 8, 0), (2, 2, 1, 8, 0), (4, 2, 1, 8, 0), (2, 2, 1, 8, 0), (2, 2, 1, 8, 0), (2, 2, 1, 8, 0), (3, 3, 1, 8, 0), (2, 2, 1, 8, 0), (2, 2, 1, 8, 1), (2, 2, 1, 8, 0), (5, 4, 1, 8, 1), (2, 2, 1, 8, 1), (2, 1, 1, 8, 0), (1, 1, 0, 8, 1), (3, 2, 1, 8, 3), (3, 1, 1, 8, 1), (4, 1, 0, 99, 3)]
/-- a row: instruction, the next pc, a, b, c, the place of its link word -/
abbrev Row : Type := Instr × Nat × Int × Nat × Nat × Nat
/-- places of words: array classes, Object.<init>, arraycopy, max, min -/
def spW : List Nat := [1059, 2155, 4011, 6125, 2135, 2156, 2157, 2066, 1026, 1027, 3156, 3155, 1018, 3238, 3239, 3088, 3089, 8156, 8157, 1017]
/-- places of the links in them -/
def jlk : List Nat := [9016, 9017, 3033, 3049, 3029, 3039, 3043, 3051, 3046, 3034, 3050]
/-- the JDK's methods of texts -/
def jtab : List MR := [
  (⟨"java/lang/String", "length", "()I"⟩, cwd 3028, 1, some .int, (0, 1, 99, 0), (3028, 3026, 3027, 1013)),
  (⟨"java/lang/String", "charAt", "(I)C"⟩, cwd 3038, 2, some .char, (1, 1, 99, 0), (3038, 3036, 3037, 1013)),
  (⟨"java/lang/String", "coder", "()B"⟩, cwd 3032, 1, some .byte, (0, 1, 99, 0), (3032, 3030, 3031, 1013)),
  (⟨"java/lang/String", "isLatin1", "()Z"⟩, cwd 3042, 1, some .boolean, (0, 1, 99, 0), (3042, 3040, 3041, 1013)),
  (⟨"java/lang/String", "checkIndex", "(II)V"⟩, cwd 3048, 2, none, (2, 0, 99, 0), (3048, 3047, 0, 1013)),
  (⟨"java/lang/StringLatin1", "charAt", "([BI)C"⟩, cwd 3045, 2, some .char, (2, 0, 99, 0), (3045, 3044, 0, 1014)),
  (⟨"jdk/internal/util/Preconditions", "checkIndex", "(IILjava/util/function/BiFunction;)I"⟩, cwd 3053, 3, some .int, (3, 0, 99, 0), (3053, 3052, 0, 1015))]
