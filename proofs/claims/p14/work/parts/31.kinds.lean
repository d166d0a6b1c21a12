/-! ===== kinds of cells (by program) ===== -/
def rs1 : Nat → gSl := fun k => match k with
  | 0 => (0, 0, 2)
  | 1 => (0, 0, 2000)
  | 2 => (2, 2, 0)
  | 3 => (0, 0, 2000)
  | 4 => (2, 3, 0)
  | 5 => (0, 0, 4000)
  | 6 => (0, 0, 2000)
  | 7 => (0, (-1), 4000)
  | 8 => (0, 0, 65535)
  | 9 => (2, 4, 0)
  | 10 => (2, 5, 0)
  | 11 => (2, 6, 0)
  | 12 => (2, 7, 0)
  | 13 => (2, 8, 0)
  | 14 => (2, 9, 0)
  | 15 => (2, 10, 0)
  | 16 => (0, 0, 1)
  | 17 => (0, 0, 1)
  | 18 => (0, 0, 64)
  | 19 => (0, 0, 64)
  | 20 => (0, 0, 3)
  | 21 => (0, 0, 2)
  | 22 => (0, 0, 2)
  | 23 => (0, 0, 192)
  | 24 => (0, (-2147483648), 2147483647)
  | 25 => (2, 11, 0)
  | 26 => (2, 12, 0)
  | 27 => (2, 13, 0)
  | 28 => (2, 14, 0)
  | 29 => (2, 15, 0)
  | 30 => (2, 16, 0)
  | 31 => (2, 17, 0)
  | 32 => (2, 18, 0)
  | 33 => (2, 19, 0)
  | 34 => (2, 20, 0)
  | 35 => (2, 21, 0)
  | 36 => (2, 22, 0)
  | 37 => (2, 23, 0)
  | 38 => (2, 24, 0)
  | 39 => (0, 0, 3)
  | 40 => (2, 25, 0)
  | 41 => (0, 0, 255)
  | 42 => (0, 0, 255)
  | 43 => (0, 0, 15)
  | 44 => (0, 0, 15)
  | 45 => (0, (-2147483648), 2147483647)
  | 46 => (0, 0, 1)
  | 47 => (0, 0, 4000)
  | 48 => (0, 0, 8)
  | 49 => (2, 26, 0)
  | 50 => (0, 0, 32)
  | 51 => (0, 0, 32)
  | 52 => (0, 0, 100)
  | 53 => (0, 0, 10)
  | 54 => (2, 27, 0)
  | 55 => (2, 28, 0)
  | 56 => (2, 29, 0)
  | 57 => (2, 30, 0)
  | 58 => (2, 31, 0)
  | 59 => (0, 0, 60000)
  | 60 => (2, 32, 0)
  | 61 => (0, (-2147483648), 2147483647)
  | 62 => (0, 0, 8)
  | 63 => (2, 33, 0)
  | 64 => (0, 0, 16)
  | 65 => (2, 34, 0)
  | 66 => (2, 35, 0)
  | 67 => (0, 0, 1)
  | 68 => (2, 36, 0)
  | 69 => (2, 37, 0)
  | 70 => (2, 38, 0)
  | 71 => (2, 39, 0)
  | 72 => (2, 40, 0)
  | 73 => (2, 41, 0)
  | 74 => (0, (-2048), 2048)
  | 75 => (0, 0, 64)
  | 76 => (2, 42, 0)
  | _ => (9, 0, 0)
/-- DctFilterModel -/
def rg1 : gRg := (.inr 12, 0, 0, rs1)
/-- input -/
def rg2 : gRg := (.inl 0, 2000, 2000, fun _ => (0, 0, 255))
/-- data -/
def rg3 : gRg := (.inl 0, 2000, 2000, fun _ => (0, 0, 255))
/-- codes -/
def rg4 : gRg := (.inl 0, 8, 8, fun _ => (0, 0, 256))
/-- symbolOf -/
def rg5 : gRg := (.inl 0, 2056, 2056, fun _ => (0, 0, 255))
/-- sizeOf -/
def rg6 : gRg := (.inl 0, 2056, 2056, fun _ => (0, 0, 16))
/-- codeOf -/
def rg7 : gRg := (.inl 0, 2056, 2056, fun _ => (0, (-2147483648), 2147483647))
/-- tables -/
def rg8 : gRg := (.inl 0, 256, 256, fun _ => (0, 0, 255))
/-- own -/
def rg9 : gRg := (.inl 0, 256, 256, fun _ => (0, 0, 255))
/-- zigzag -/
def rg10 : gRg := (.inl 0, 64, 64, fun _ => (0, 0, 63))
/-- name -/
def rg11 : gRg := (.inl 0, 3, 3, fun _ => (0, 0, 255))
/-- bh -/
def rg12 : gRg := (.inl 0, 3, 3, fun _ => (0, 0, 15))
/-- bv -/
def rg13 : gRg := (.inl 0, 3, 3, fun _ => (0, 0, 15))
/-- table -/
def rg14 : gRg := (.inl 0, 3, 3, fun _ => (0, 0, 255))
/-- columns -/
def rg15 : gRg := (.inl 0, 3, 3, fun _ => (0, 0, 16))
/-- rows -/
def rg16 : gRg := (.inl 0, 3, 3, fun _ => (0, 0, 16))
/-- ownColumns -/
def rg17 : gRg := (.inl 0, 3, 3, fun _ => (0, 0, 16))
/-- ownRows -/
def rg18 : gRg := (.inl 0, 3, 3, fun _ => (0, 0, 16))
/-- first -/
def rg19 : gRg := (.inl 0, 3, 3, fun _ => (0, 0, 192))
/-- before -/
def rg20 : gRg := (.inl 0, 3, 3, fun _ => (0, (-2147483648), 2147483647))
/-- firsts -/
def rg21 : gRg := (.inl 0, 3, 3, fun _ => (0, 0, 15))
/-- others -/
def rg22 : gRg := (.inl 0, 3, 3, fun _ => (0, 0, 19))
/-- coefficients -/
def rg23 : gRg := (.inl 0, 12288, 12288, fun _ => (0, (-2147483648), 2147483647))
/-- damaged -/
def rg24 : gRg := (.inl 3, 192, 192, fun _ => (0, 0, 1))
/-- scanBand -/
def rg25 : gRg := (.inl 0, 3, 3, fun _ => (0, 0, 2))
/-- canvas -/
def rg26 : gRg := (.inl 0, 1024, 1024, fun _ => (0, 0, 255))
/-- toldFrom -/
def rg27 : gRg := (.inl 0, 10, 10, fun _ => (0, 0, 63))
/-- toldTo -/
def rg28 : gRg := (.inl 0, 10, 10, fun _ => (0, 0, 63))
/-- toldAbove -/
def rg29 : gRg := (.inl 0, 10, 10, fun _ => (0, 0, 4))
/-- toldBit -/
def rg30 : gRg := (.inl 0, 10, 10, fun _ => (0, 0, 3))
/-- come -/
def rg31 : gRg := (.inl 0, 64, 64, fun _ => (0, (-1), 3))
/-- out -/
def rg32 : gRg := (.inl 0, 60000, 60000, fun _ => (0, 0, 255))
/-- made -/
def rg33 : gRg := (.inl 0, 1024, 1024, fun _ => (0, (-2048), 2048))
/-- ownTable -/
def rg34 : gRg := (.inl 0, 64, 64, fun _ => (0, 0, 255))
/-- counts -/
def rg35 : gRg := (.inl 0, 17, 17, fun _ => (0, 0, 255))
/-- often -/
def rg36 : gRg := (.inl 0, 514, 514, fun _ => (0, 0, 5000))
/-- suitSize -/
def rg37 : gRg := (.inl 0, 514, 514, fun _ => (0, 0, 22))
/-- suitCode -/
def rg38 : gRg := (.inl 0, 514, 514, fun _ => (0, (-2147483648), 2147483647))
/-- weight -/
def rg39 : gRg := (.inl 0, 514, 514, fun _ => (0, 0, 2000))
/-- greatest -/
def rg40 : gRg := (.inl 0, 514, 514, fun _ => (0, 0, 514))
/-- parent -/
def rg41 : gRg := (.inl 0, 514, 514, fun _ => (0, (-1), 514))
/-- wait -/
def rg42 : gRg := (.inl 0, 64, 64, fun _ => (0, 0, 1))
def rs50 : Nat → gSl := fun k => match k with
  | 0 => (2, 51, 0)
  | 1 => (2, 53, 0)
  | 2 => (2, 54, 0)
  | 3 => (2, 55, 0)
  | 4 => (2, 56, 0)
  | 5 => (3, 65, 0)
  | 6 => (3, 71, 0)
  | _ => (9, 0, 0)
/-- DctFilter -/
def rg50 : gRg := (.inr 11, 0, 0, rs50)
def rs51 : Nat → gSl := fun k => match k with
  | 0 => (2, 52, 0)
  | 1 => (0, 0, 2000)
  | _ => (9, 0, 0)
/-- DctFilter$Collected -/
def rg51 : gRg := (.inr 3, 0, 0, rs51)
/-- Collected.bytes -/
def rg52 : gRg := (.inl 1, 2000, 2000, fun _ => (0, (-128), 127))
/-- DctFilter.tables -/
def rg53 : gRg := (.inl 0, 256, 256, fun _ => (0, 0, 255))
def rs54 : Nat → gSl := fun k => match k with
  | 0 => (2, 57, 0)
  | 1 => (2, 58, 0)
  | 2 => (2, 112, 0)
  | 3 => (2, 113, 0)
  | 4 => (0, 0, 1)
  | 5 => (0, 0, 64)
  | 6 => (0, 0, 64)
  | 7 => (0, 0, 3)
  | 8 => (0, 0, 192)
  | 9 => (0, (-2147483648), 2147483647)
  | 10 => (0, 1, 2)
  | 11 => (0, 1, 2)
  | 12 => (0, 0, 8)
  | 13 => (0, 0, 8)
  | _ => (9, 0, 0)
/-- DctFilter$Picture -/
def rg54 : gRg := (.inr 5, 0, 0, rs54)
def rs55 : Nat → gSl := fun k => match k with
  | 0 => (2, 59, 0)
  | 1 => (0, 0, 32)
  | 2 => (0, 0, 32)
  | 3 => (0, 0, 100)
  | 4 => (2, 60, 0)
  | 5 => (2, 61, 0)
  | 6 => (2, 62, 0)
  | 7 => (2, 63, 0)
  | 8 => (0, 0, 10)
  | 9 => (2, 64, 0)
  | _ => (9, 0, 0)
/-- DctFilter$Draft -/
def rg55 : gRg := (.inr 4, 0, 0, rs55)
def rs56 : Nat → gSl := fun k => match k with
  | 0 => (2, 114, 0)
  | 1 => (0, 0, 500000)
  | 2 => (0, (-2147483648), 2147483647)
  | 3 => (0, 0, 8)
  | _ => (9, 0, 0)
/-- DctFilter$Sink -/
def rg56 : gRg := (.inr 8, 0, 0, rs56)
/-- Picture.bands -/
def rg57 : gRg := (.inl 4, 3, 3, fun j => (2, 82 + (j : Int), 0))
/-- Picture.tables -/
def rg58 : gRg := (.inl 0, 256, 256, fun _ => (0, 0, 255))
/-- Draft.points -/
def rg59 : gRg := (.inl 0, 1024, 1024, fun _ => (0, 0, 255))
/-- Draft.froms -/
def rg60 : gRg := (.inl 0, 10, 10, fun _ => (0, 0, 63))
/-- Draft.tos -/
def rg61 : gRg := (.inl 0, 10, 10, fun _ => (0, 0, 63))
/-- Draft.highs -/
def rg62 : gRg := (.inl 0, 10, 10, fun _ => (0, 0, 4))
/-- Draft.lows -/
def rg63 : gRg := (.inl 0, 10, 10, fun _ => (0, 0, 3))
/-- Draft.lowest -/
def rg64 : gRg := (.inl 0, 64, 64, fun _ => (0, (-1), 3))
def rs65 : Nat → gSl := fun k => match k with
  | 0 => (2, 51, 0)
  | 1 => (2, 54, 0)
  | 2 => (2, 66, 0)
  | 3 => (0, 0, 4100)
  | _ => (9, 0, 0)
/-- DctFilter$Reader -/
def rg65 : gRg := (.inr 6, 0, 0, rs65)
def rs66 : Nat → gSl := fun k => match k with
  | 0 => (2, 67, 0)
  | 1 => (0, (-1), 65535)
  | 2 => (0, (-1), 255)
  | 3 => (0, (-1), 255)
  | 4 => (0, (-1), 15)
  | 5 => (0, 0, 15)
  | 6 => (2, 68, 0)
  | 7 => (2, 54, 0)
  | 8 => (2, 69, 0)
  | 9 => (2, 70, 0)
  | 10 => (0, 0, 12)
  | 11 => (0, 0, 1)
  | 12 => (0, 0, 2)
  | 13 => (0, 0, 70000)
  | 14 => (0, (-2147483648), 2147483647)
  | _ => (9, 0, 0)
/-- DctFilter$ScanReader -/
def rg66 : gRg := (.inr 7, 0, 0, rs66)
def rs67 : Nat → gSl := fun k => match k with
  | 0 => (2, 51, 0)
  | 1 => (0, 0, 5000)
  | 2 => (0, 0, 255)
  | 3 => (0, 0, 8)
  | _ => (9, 0, 0)
/-- DctFilter$Bits -/
def rg67 : gRg := (.inr 1, 0, 0, rs67)
/-- ScanReader.codes -/
def rg68 : gRg := (.inl 5, 8, 8, fun _ => (2, 101, 0))
/-- unitBands -/
def rg69 : gRg := (.inl 0, 12, 12, fun _ => (0, 0, 2))
/-- unitBlocks -/
def rg70 : gRg := (.inl 0, 12, 12, fun _ => (0, 0, 191))
def rs71 : Nat → gSl := fun k => match k with
  | 0 => (2, 56, 0)
  | 1 => (2, 72, 0)
  | 2 => (2, 73, 0)
  | 3 => (2, 74, 0)
  | 4 => (2, 75, 0)
  | 5 => (0, 0, 16)
  | 6 => (0, 0, 100)
  | 7 => (0, 0, 63)
  | 8 => (0, 0, 63)
  | 9 => (0, 0, 4)
  | 10 => (0, 0, 3)
  | 11 => (0, 0, 1)
  | 12 => (0, (-2048), 2048)
  | 13 => (1, (-9223372036854775808), 9223372036854775807)
  | 14 => (0, 0, 64)
  | _ => (9, 0, 0)
/-- DctFilter$Writer -/
def rg71 : gRg := (.inr 10, 0, 0, rs71)
/-- Writer.table -/
def rg72 : gRg := (.inl 0, 64, 64, fun _ => (0, 0, 255))
/-- Writer.coefficients -/
def rg73 : gRg := (.inl 0, 1024, 1024, fun _ => (0, (-2048), 2048))
/-- Writer.halfway -/
def rg74 : gRg := (.inl 2, 64, 64, fun _ => (1, (-4194304), 4194304))
/-- Writer.suited -/
def rg75 : gRg := (.inl 6, 2, 2, fun j => (2, 91 + (j : Int), 0))
def rs82 : Nat → gSl := fun k => match k with
  | 0 => (0, (-1), 255)
  | 1 => (0, (-1), 15)
  | 2 => (0, 0, 15)
  | 3 => (0, (-1), 255)
  | 4 => (0, 0, 16)
  | 5 => (0, 0, 16)
  | 6 => (0, 0, 16)
  | 7 => (0, 0, 16)
  | 8 => (0, 0, 192)
  | 9 => (0, 0, 15)
  | 10 => (0, 0, 15)
  | 11 => (0, (-2147483648), 2147483647)
  | _ => (9, 0, 0)
/-- DctFilter$Band -/
def rg82 : gRg := (.inr 0, 0, 0, rs82)
def rs83 : Nat → gSl := fun k => match k with
  | 0 => (0, (-1), 255)
  | 1 => (0, (-1), 15)
  | 2 => (0, 0, 15)
  | 3 => (0, (-1), 255)
  | 4 => (0, 0, 16)
  | 5 => (0, 0, 16)
  | 6 => (0, 0, 16)
  | 7 => (0, 0, 16)
  | 8 => (0, 0, 192)
  | 9 => (0, 0, 15)
  | 10 => (0, 0, 15)
  | 11 => (0, (-2147483648), 2147483647)
  | _ => (9, 0, 0)
/-- DctFilter$Band -/
def rg83 : gRg := (.inr 0, 0, 0, rs83)
def rs84 : Nat → gSl := fun k => match k with
  | 0 => (0, (-1), 255)
  | 1 => (0, (-1), 15)
  | 2 => (0, 0, 15)
  | 3 => (0, (-1), 255)
  | 4 => (0, 0, 16)
  | 5 => (0, 0, 16)
  | 6 => (0, 0, 16)
  | 7 => (0, 0, 16)
  | 8 => (0, 0, 192)
  | 9 => (0, 0, 15)
  | 10 => (0, 0, 15)
  | 11 => (0, (-2147483648), 2147483647)
  | _ => (9, 0, 0)
/-- DctFilter$Band -/
def rg84 : gRg := (.inr 0, 0, 0, rs84)
/-- out -/
def rg90 : gRg := (.inl 2, 1, 1, fun _ => (1, (-9223372036854775808), 9223372036854775807))
def rs101 : Nat → gSl := fun k => match k with
  | 0 => (2, 102, 0)
  | 1 => (2, 103, 0)
  | _ => (9, 0, 0)
/-- DctFilter$Codes -/
def rg101 : gRg := (.inr 2, 0, 0, rs101)
/-- Codes.counts -/
def rg102 : gRg := (.inl 0, 17, 17, fun _ => (0, (-1), 255))
/-- Codes.symbols -/
def rg103 : gRg := (.inl 0, 256, 256, fun _ => (0, (-1), 255))
def rs91 : Nat → gSl := fun k => match k with
  | 0 => (2, 93, 0)
  | 1 => (2, 94, 0)
  | 2 => (2, 95, 0)
  | 3 => (2, 96, 0)
  | 4 => (0, 0, 256)
  | 5 => (2, 97, 0)
  | 6 => (2, 98, 0)
  | 7 => (2, 99, 0)
  | 8 => (0, 0, 257)
  | _ => (9, 0, 0)
/-- DctFilter$Suited -/
def rg91 : gRg := (.inr 9, 0, 0, rs91)
/-- Suited.counts -/
def rg93 : gRg := (.inl 0, 17, 17, fun _ => (0, 0, 257))
/-- Suited.order -/
def rg94 : gRg := (.inl 0, 256, 256, fun _ => (0, 0, 255))
/-- Suited.codes -/
def rg95 : gRg := (.inl 0, 257, 257, fun _ => (0, (-2147483648), 2147483647))
/-- Suited.lengths -/
def rg96 : gRg := (.inl 0, 257, 257, fun _ => (0, 0, 300))
/-- Suited.weights -/
def rg97 : gRg := (.inl 0, 257, 257, fun _ => (0, (-2147483648), 2147483647))
/-- Suited.groups -/
def rg98 : gRg := (.inl 0, 257, 257, fun _ => (0, 0, 256))
/-- Suited.used -/
def rg99 : gRg := (.inl 0, 257, 257, fun _ => (0, 0, 256))
def rs92 : Nat → gSl := fun k => match k with
  | 0 => (2, 76, 0)
  | 1 => (2, 77, 0)
  | 2 => (2, 78, 0)
  | 3 => (2, 79, 0)
  | 4 => (0, 0, 256)
  | 5 => (2, 80, 0)
  | 6 => (2, 81, 0)
  | 7 => (2, 85, 0)
  | 8 => (0, 0, 257)
  | _ => (9, 0, 0)
/-- DctFilter$Suited -/
def rg92 : gRg := (.inr 9, 0, 0, rs92)
/-- Suited.counts -/
def rg76 : gRg := (.inl 0, 17, 17, fun _ => (0, 0, 257))
/-- Suited.order -/
def rg77 : gRg := (.inl 0, 256, 256, fun _ => (0, 0, 255))
/-- Suited.codes -/
def rg78 : gRg := (.inl 0, 257, 257, fun _ => (0, (-2147483648), 2147483647))
/-- Suited.lengths -/
def rg79 : gRg := (.inl 0, 257, 257, fun _ => (0, 0, 300))
/-- Suited.weights -/
def rg80 : gRg := (.inl 0, 257, 257, fun _ => (0, (-2147483648), 2147483647))
/-- Suited.groups -/
def rg81 : gRg := (.inl 0, 257, 257, fun _ => (0, 0, 256))
/-- Suited.used -/
def rg85 : gRg := (.inl 0, 257, 257, fun _ => (0, 0, 256))
/-- Picture.coefficients -/
def rg112 : gRg := (.inl 0, 0, 12288, fun _ => (0, (-2147483648), 2147483647))
/-- Picture.damaged -/
def rg113 : gRg := (.inl 0, 0, 192, fun _ => (0, 0, 1))
/-- Sink.bytes -/
def rg114 : gRg := (.inl 1, 1024, 1000000, fun _ => (0, (-128), 127))
def rT : Nat → Option gRg := fun q => match q with
  | 1 => some rg1
  | 2 => some rg2
  | 3 => some rg3
  | 4 => some rg4
  | 5 => some rg5
  | 6 => some rg6
  | 7 => some rg7
  | 8 => some rg8
  | 9 => some rg9
  | 10 => some rg10
  | 11 => some rg11
  | 12 => some rg12
  | 13 => some rg13
  | 14 => some rg14
  | 15 => some rg15
  | 16 => some rg16
  | 17 => some rg17
  | 18 => some rg18
  | 19 => some rg19
  | 20 => some rg20
  | 21 => some rg21
  | 22 => some rg22
  | 23 => some rg23
  | 24 => some rg24
  | 25 => some rg25
  | 26 => some rg26
  | 27 => some rg27
  | 28 => some rg28
  | 29 => some rg29
  | 30 => some rg30
  | 31 => some rg31
  | 32 => some rg32
  | 33 => some rg33
  | 34 => some rg34
  | 35 => some rg35
  | 36 => some rg36
  | 37 => some rg37
  | 38 => some rg38
  | 39 => some rg39
  | 40 => some rg40
  | 41 => some rg41
  | 42 => some rg42
  | 50 => some rg50
  | 51 => some rg51
  | 52 => some rg52
  | 53 => some rg53
  | 54 => some rg54
  | 55 => some rg55
  | 56 => some rg56
  | 57 => some rg57
  | 58 => some rg58
  | 59 => some rg59
  | 60 => some rg60
  | 61 => some rg61
  | 62 => some rg62
  | 63 => some rg63
  | 64 => some rg64
  | 65 => some rg65
  | 66 => some rg66
  | 67 => some rg67
  | 68 => some rg68
  | 69 => some rg69
  | 70 => some rg70
  | 71 => some rg71
  | 72 => some rg72
  | 73 => some rg73
  | 74 => some rg74
  | 75 => some rg75
  | 82 => some rg82
  | 83 => some rg83
  | 84 => some rg84
  | 90 => some rg90
  | 101 => some rg101
  | 102 => some rg102
  | 103 => some rg103
  | 91 => some rg91
  | 93 => some rg93
  | 94 => some rg94
  | 95 => some rg95
  | 96 => some rg96
  | 97 => some rg97
  | 98 => some rg98
  | 99 => some rg99
  | 92 => some rg92
  | 76 => some rg76
  | 77 => some rg77
  | 78 => some rg78
  | 79 => some rg79
  | 80 => some rg80
  | 81 => some rg81
  | 85 => some rg85
  | 112 => some rg112
  | 113 => some rg113
  | 114 => some rg114
  | _ => none
/-- a boolean answer -/
theorem gfin_z {t : gMt} {pc : Nat} {z : Int} (hlk : glk pc (gmC t) = some (.ireturn, 1)) (hr : gmR t = some .boolean) (hz : z = 0 ∨ z = 1) : gfin t pc [.int (zi z)] = some (some (.int (zi z))) := by
  unfold gfin
  rw [hlk]
  show gret (gmR t) .ireturn 1 [.int (zi z)] = _
  rw [hr]
  unfold gret
  rcases hz with rfl | rfl <;> rfl
theorem gfit_z {z : Int} (hz : z = 0 ∨ z = 1) : gfit .boolean (.int (zi z)) = true := by
  rcases hz with rfl | rfl <;> rfl
theorem gLw.z : gLw [] [] := gLw.rf
theorem gLw.s {o : Option Value} {l l2 : gL} (h : gLw l l2) : gLw (o :: l) (o :: l2) := by
  refine ⟨by simp [h.1], fun i v hi => ?_⟩
  cases i with
  | zero => exact hi
  | succ i => exact h.2 i v hi
theorem gLw.n {o : Option Value} {l l2 : gL} (h : gLw l l2) : gLw (none :: l) (o :: l2) := by
  refine ⟨by simp [h.1], fun i v hi => ?_⟩
  cases i with
  | zero => cases hi
  | succ i => exact h.2 i v hi
